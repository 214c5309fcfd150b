def b_X10_isEnd_9 (p1 : Int32) (Q : Int32 → VV → Prop) (a0 : Int32) (v : VV) : Prop :=
  Q 1 v
set_option maxHeartbeats 4000000 in
set_option maxRecDepth 100000 in
theorem tb_X10_isEnd_9 {p : Program} {l : Launch} {e : Env} {s : State} {m : MethodId} {args : Array Value} {below : List Frame} {meth : Method} {c : Code} {QQ : State → Prop} {dC : Nat → ClassId} {dI : Nat → Nat → Nat} {base : Nat} {cy : Nat → ClassId} (hx : p.tables.exec = Jvm.exec) (hb : c.code = cX10_isEnd) (hml : c.maxLocals = 1) (hown : s.vm.findClass RX10 = some m.cls) (hts : ∀ w ∈ TB, w.before args s = true) (hK : va_K (dC, dI) vwCl (tyL cy) s) (p1 : Int32) (Q : Int32 → VV → Prop) (hret : ∀ (pc : Nat) (x : Int32) (v : VV) (H : Heap) (locs : List Loc) (ls : Array Slot), decode cX10_isEnd pc = .ok (.ireturn, 1) → (x = 0 ∨ x = 1) → Q x v → va_P (dC, dI) vwCl (Wd base cy rf v 874) H → va_S (fun q => base ≤ q) s.heap H locs → W p l e { frames := 0, cells := 0, slots := 0, locals := 0 } s m args below meth c H locs 0 0 QQ (F0 m pc ls [.int x])) (a0 : Int32) (v : VV) (H : Heap) (locs : List Loc) (ls : Array Slot) (hw : b_X10_isEnd_9 p1 Q  a0 v) : lv_has ls 1 [(0, .int a0)] → va_P (dC, dI) vwCl (Wd base cy rf v 874) H → va_S (fun q => base ≤ q) s.heap H locs → W p l e { frames := 0, cells := 0, slots := 0, locals := 0 } s m args below meth c H locs 0 0 QQ (F0 m 9 ls []) := by
  intro hl hP hS
  refine lv_iconst (v := 1) hx hb dX10_isEnd_9 (by decide) ?_
  refine lv_goto (tgt := 14) hx hb dX10_isEnd_10 (by decide) ?_
  exact hret _ _ _ _ _ _ dX10_isEnd_14 (by decide) hw hP hS
def w_X10_isEnd (p1 : Int32) (v : VV) (Q : Int32 → VV → Prop) : Prop :=
  (p1 = 0 → b_X10_isEnd_9 p1 Q  p1 v) ∧ (¬ p1 = 0 → (¬ p1 = 1 → Q 0 v) ∧ (p1 = 1 → b_X10_isEnd_9 p1 Q  p1 v))
set_option maxHeartbeats 4000000 in
set_option maxRecDepth 100000 in
/-- TransportFourModel.isEnd -/
theorem t_X10_isEnd (l : Launch) (dC : Nat → ClassId) (dI : Nat → Nat → Nat) (base : Nat) (cy : Nat → ClassId) (p1 : Int32) (v : VV) (Q : Int32 → VV → Prop) (hw : w_X10_isEnd p1 v Q) : CI l yX10_isEnd (.code yX10_isEnd cX10_isEnd 1 (some .boolean) :: TB) { frames := 0, cells := 0, slots := 0, locals := 0 } dC dI base cy [.int p1] v Q := by
  refine Met.ofW (cc := cX10_isEnd) (maxL := 1) (ret := (some .boolean)) (by decide) rfl ?_
  intro p e s m args below meth c s₁ B hml hv
  obtain ⟨rfl, hP, hK⟩ := hv
  have hx := B.exec
  have hb := B.bytes
  have hr := B.returns
  have hts0 := atoms_spec (ws := (.code yX10_isEnd cX10_isEnd 1 (some .boolean) :: TB)) B.pre
  have hts : ∀ w ∈ TB, w.before ([.int p1]).toArray s = true := fun w h => hts0 w (List.mem_cons_of_mem _ h)
  have hown : s.vm.findClass RX10 = some m.cls := findClass_of_methodNamed B.named
  have hlocks := B.notSynchronized
  have hS : va_S (fun q => base ≤ q) s.heap s.heap [] := va_S.rf
  have hl := lv_entry ([.int p1]) (n := 1) (Nat.le_of_ble_eq_true rfl)
  rw [lg_entry_eq]
  generalize (lg_sl ([.int p1]) ++ List.replicate (1 - (lg_sl ([.int p1])).length) Slot.unset).toArray = ls at hl ⊢
  have hl : lv_has ls 1 [(0, .int p1)] := hl
  have hret : ∀ (pc : Nat) (x : Int32) (v : VV) (H : Heap) (locs : List Loc) (ls : Array Slot), decode cX10_isEnd pc = .ok (.ireturn, 1) → (x = 0 ∨ x = 1) → Q x v → va_P (dC, dI) vwCl (Wd base cy rf v 874) H → va_S (fun q => base ≤ q) s.heap H locs → W p l e { frames := 0, cells := 0, slots := 0, locals := 0 } s m ([.int p1]).toArray below meth c H locs 0 0 (MQ below (va_Qi Q (Hp dC dI base cy) (fun q => base ≤ q)) ([.int p1]).toArray s 0 0 (fun q => base ≤ q)) (F0 m pc ls [.int x]) := fun pc x v H locs ls hd hz hq hP hS => W.zret (v := x) hx hb hr (zb_n hz) (fun t ht hW => ⟨⟨x, v, rfl, hq, by rw [ht]; exact hP, va_K.moved hW.alike hK⟩, hS.F ht⟩) hS.2.2 hd
  refine lv_iload_n hx hb dX10_isEnd_0 rfl (lv_at hl 0 rfl) ?_
  refine lv_if_eq (tgt := 9) hx hb dX10_isEnd_1 (by decide) (fun c1 => ?_) (fun c1 => ?_)
  · have hw := hw.1 c1
    exact tb_X10_isEnd_9 hx hb hml hown hts hK p1 _ hret  p1 v _ _ _ hw (lv_sub hl [0] rfl) hP hS
  · have hw := hw.2 c1
    refine lv_iload_n hx hb dX10_isEnd_4 rfl (lv_at hl 0 rfl) ?_
    refine lv_iconst (v := 1) hx hb dX10_isEnd_5 (by decide) ?_
    refine lv_icmp_ne (tgt := 13) hx hb dX10_isEnd_6 (by decide) (fun c6 => ?_) (fun c6 => ?_)
    · have hw := hw.1 c6
      refine lv_iconst (v := 0) hx hb dX10_isEnd_13 (by decide) ?_
      exact hret _ _ _ _ _ _ dX10_isEnd_14 (by decide) hw hP hS
    · have hw := hw.2 c6
      exact tb_X10_isEnd_9 hx hb hml hown hts hK p1 _ hret  p1 v _ _ _ hw (lv_sub hl [0] rfl) hP hS
def w_X10_mod (p1 : Int32) (v : VV) (Q : Int32 → VV → Prop) : Prop :=
  ∀ x3 : Int32, x3 = p1 &&& 127 → Q x3 v
set_option maxHeartbeats 4000000 in
set_option maxRecDepth 100000 in
/-- TransportFourModel.mod -/
theorem t_X10_mod (l : Launch) (dC : Nat → ClassId) (dI : Nat → Nat → Nat) (base : Nat) (cy : Nat → ClassId) (p1 : Int32) (v : VV) (Q : Int32 → VV → Prop) (hw : w_X10_mod p1 v Q) : CI l yX10_mod (.code yX10_mod cX10_mod 1 (some .int) :: TB) { frames := 0, cells := 0, slots := 0, locals := 0 } dC dI base cy [.int p1] v Q := by
  refine Met.ofW (cc := cX10_mod) (maxL := 1) (ret := (some .int)) (by decide) rfl ?_
  intro p e s m args below meth c s₁ B hml hv
  obtain ⟨rfl, hP, hK⟩ := hv
  have hx := B.exec
  have hb := B.bytes
  have hr := B.returns
  have hts0 := atoms_spec (ws := (.code yX10_mod cX10_mod 1 (some .int) :: TB)) B.pre
  have hts : ∀ w ∈ TB, w.before ([.int p1]).toArray s = true := fun w h => hts0 w (List.mem_cons_of_mem _ h)
  have hown : s.vm.findClass RX10 = some m.cls := findClass_of_methodNamed B.named
  have hlocks := B.notSynchronized
  have hS : va_S (fun q => base ≤ q) s.heap s.heap [] := va_S.rf
  have hl := lv_entry ([.int p1]) (n := 1) (Nat.le_of_ble_eq_true rfl)
  rw [lg_entry_eq]
  generalize (lg_sl ([.int p1]) ++ List.replicate (1 - (lg_sl ([.int p1])).length) Slot.unset).toArray = ls at hl ⊢
  have hl : lv_has ls 1 [(0, .int p1)] := hl
  have hret : ∀ (pc : Nat) (x : Int32) (v : VV) (H : Heap) (locs : List Loc) (ls : Array Slot), decode cX10_mod pc = .ok (.ireturn, 1) → Q x v → va_P (dC, dI) vwCl (Wd base cy rf v 874) H → va_S (fun q => base ≤ q) s.heap H locs → W p l e { frames := 0, cells := 0, slots := 0, locals := 0 } s m ([.int p1]).toArray below meth c H locs 0 0 (MQ below (va_Qi Q (Hp dC dI base cy) (fun q => base ≤ q)) ([.int p1]).toArray s 0 0 (fun q => base ≤ q)) (F0 m pc ls [.int x]) := fun pc x v H locs ls hd hq hP hS => W.iret (v := x) hx hb hr (fun t ht hW => ⟨⟨x, v, rfl, hq, by rw [ht]; exact hP, va_K.moved hW.alike hK⟩, hS.F ht⟩) hS.2.2 hd
  refine lv_iload_n hx hb dX10_mod_0 rfl (lv_at hl 0 rfl) ?_
  refine lv_bipush (v := 127) hx hb dX10_mod_1 (by decide) ?_
  refine lv_iand hx hb dX10_mod_3 ?_
  refine lv_topi (fun x3 ex3 => ?_)
  have hw := hw x3 ex3
  exact hret _ _ _ _ _ _ dX10_mod_4 hw hP hS
def w_X10_push (p1 : Int32) (v : VV) (Q : VV → Prop) : Prop :=
  ∀ x5 : Int32, x5 = v 816 63 → vp_in x5 20 ∧ ∀ v1 : VV, v1 = up2 v 873 (Int32.toNatClampNeg x5) p1 → ∀ x12 : Int32, x12 = v1 816 63 → ∀ x16 : Int32, x16 = x12 + 1 → ∀ v3 : VV, v3 = up2 v1 816 63 x16 → Q v3
set_option maxHeartbeats 4000000 in
set_option maxRecDepth 100000 in
/-- TransportFourModel.push -/
theorem t_X10_push (l : Launch) (dC : Nat → ClassId) (dI : Nat → Nat → Nat) (base : Nat) (cy : Nat → ClassId) (p1 : Int32) (v : VV) (Q : VV → Prop) (hw : w_X10_push p1 v Q) : CV l yX10_push (.code yX10_push cX10_push 2 none :: TB) { frames := 0, cells := 0, slots := 0, locals := 0 } dC dI base cy [.ref (base + 816), .int p1] v Q := by
  refine Met.ofW (cc := cX10_push) (maxL := 2) (ret := none) (by decide) rfl ?_
  intro p e s m args below meth c s₁ B hml hv
  obtain ⟨rfl, hP, hK⟩ := hv
  have hx := B.exec
  have hb := B.bytes
  have hr := B.returns
  have hts0 := atoms_spec (ws := (.code yX10_push cX10_push 2 none :: TB)) B.pre
  have hts : ∀ w ∈ TB, w.before ([.ref (base + 816), .int p1]).toArray s = true := fun w h => hts0 w (List.mem_cons_of_mem _ h)
  have hown : s.vm.findClass RX10 = some m.cls := findClass_of_methodNamed B.named
  have hlocks := B.notSynchronized
  have hS : va_S (fun q => base ≤ q) s.heap s.heap [] := va_S.rf
  have hl := lv_entry ([.ref (base + 816), .int p1]) (n := 2) (Nat.le_of_ble_eq_true rfl)
  rw [lg_entry_eq]
  generalize (lg_sl ([.ref (base + 816), .int p1]) ++ List.replicate (2 - (lg_sl ([.ref (base + 816), .int p1])).length) Slot.unset).toArray = ls at hl ⊢
  have hl : lv_has ls 2 [(0, .ref (base + 816)), (1, .int p1)] := hl
  have hret : ∀ (pc : Nat) (v : VV) (H : Heap) (locs : List Loc) (ls : Array Slot), decode cX10_push pc = .ok (.return_, 1) → Q v → va_P (dC, dI) vwCl (Wd base cy rf v 874) H → va_S (fun q => base ≤ q) s.heap H locs → W p l e { frames := 0, cells := 0, slots := 0, locals := 0 } s m ([.ref (base + 816), .int p1]).toArray below meth c H locs 0 0 (MQ below (va_Qv Q (Hp dC dI base cy) (fun q => base ≤ q)) ([.ref (base + 816), .int p1]).toArray s 0 0 (fun q => base ≤ q)) (F0 m pc ls []) := fun pc v H locs ls hd hq hP hS => W.vret hx hb hr (fun t ht hW => ⟨⟨v, rfl, hq, by rw [ht]; exact hP, va_K.moved hW.alike hK⟩, hS.F ht⟩) hS.2.2 hd
  refine lv_aload_n hx hb dX10_push_0 rfl (lv_at hl 0 rfl) ?_
  refine w_gR (C := RX10) (T := TX10) (N := 64) (ci := 10) hx hb hts in10 hown hK hP 62 th10.1 th10 rfl (by decide) (ch10_62 th10).1 (hts _ mf_X10_180) dX10_push_1 ?_
  refine lv_aload_n hx hb dX10_push_4 rfl (lv_at hl 0 rfl) ?_
  refine w_gI (C := RX10) (T := TX10) (N := 64) (ci := 10) hx hb hts in10 hown hK hP 63 th10.1 th10 rfl (by decide) (hts _ mf_X10_183) dX10_push_5 ?_
  refine lv_topi (fun x5 ex5 => ?_)
  have hw := hw x5 ex5
  refine lv_iload_n hx hb dX10_push_8 rfl (lv_at hl 1 rfl) ?_
  obtain ⟨hi2, hw⟩ := hw
  refine w_is (N := 20) hx hb hK hP hS (ch10_62 th10).2.1.1 (ch10_62 th10).2.1 (ch10_62 th10).2.2 hi2 dX10_push_9 (fun v1 H locs hv1 hP hz hS => ?_)
  have hw := hw v1 hv1
  refine lv_aload_n hx hb dX10_push_10 rfl (lv_at hl 0 rfl) ?_
  refine lv_dup hx hb dX10_push_11 rfl ?_
  refine w_gI (C := RX10) (T := TX10) (N := 64) (ci := 10) hx hb hts in10 hown hK hP 63 th10.1 th10 rfl (by decide) (hts _ mf_X10_183) dX10_push_12 ?_
  refine lv_topi (fun x12 ex12 => ?_)
  have hw := hw x12 ex12
  refine lv_iconst (v := 1) hx hb dX10_push_15 (by decide) ?_
  refine lv_iadd hx hb dX10_push_16 ?_
  refine lv_topi (fun x16 ex16 => ?_)
  have hw := hw x16 ex16
  refine w_pI (C := RX10) (T := TX10) (N := 64) (ci := 10) hx hb hts in10 tyX10 tyX10_ok nmX10 hown hK hP hS 63 th10.1 th10 rfl (by decide) (hts _ mf_X10_183) rfl (ty := .int) (by decide +kernel) rfl rfl dX10_push_17 (fun v3 H locs hv3 hP hz hS => ?_)
  have hw := hw v3 hv3
  exact hret _ _ _ _ _ dX10_push_20 hw hP hS
def w_X10_begin (p1 : Int32) (p2 : Int32) (v : VV) (Q : VV → Prop) : Prop :=
  ∀ v1 : VV, v1 = up2 v 816 63 1 → w_X10_push p1 v1 (fun (v2 : VV) => ∀ x15 : Int32, x15 = p2 / 256 → w_X10_push x15 v2 (fun (v3 : VV) => ∀ x24 : Int32, x24 = p2 - p2 / 256 * 256 → w_X10_push x24 v3 (fun (v4 : VV) => Q v4)))
set_option maxHeartbeats 4000000 in
set_option maxRecDepth 100000 in
/-- TransportFourModel.begin -/
theorem t_X10_begin (l : Launch) (dC : Nat → ClassId) (dI : Nat → Nat → Nat) (base : Nat) (cy : Nat → ClassId) (p1 : Int32) (p2 : Int32) (v : VV) (Q : VV → Prop) (hw : w_X10_begin p1 p2 v Q) : CV l yX10_begin (.code yX10_begin cX10_begin 3 none :: TB) { frames := 1, cells := 0, slots := 0, locals := 21 } dC dI base cy [.ref (base + 816), .int p1, .int p2] v Q := by
  refine Met.ofW (cc := cX10_begin) (maxL := 3) (ret := none) (by decide) rfl ?_
  intro p e s m args below meth c s₁ B hml hv
  obtain ⟨rfl, hP, hK⟩ := hv
  have hx := B.exec
  have hb := B.bytes
  have hr := B.returns
  have hts0 := atoms_spec (ws := (.code yX10_begin cX10_begin 3 none :: TB)) B.pre
  have hts : ∀ w ∈ TB, w.before ([.ref (base + 816), .int p1, .int p2]).toArray s = true := fun w h => hts0 w (List.mem_cons_of_mem _ h)
  have hown : s.vm.findClass RX10 = some m.cls := findClass_of_methodNamed B.named
  have hlocks := B.notSynchronized
  have hS : va_S (fun q => base ≤ q) s.heap s.heap [] := va_S.rf
  have hl := lv_entry ([.ref (base + 816), .int p1, .int p2]) (n := 3) (Nat.le_of_ble_eq_true rfl)
  rw [lg_entry_eq]
  generalize (lg_sl ([.ref (base + 816), .int p1, .int p2]) ++ List.replicate (3 - (lg_sl ([.ref (base + 816), .int p1, .int p2])).length) Slot.unset).toArray = ls at hl ⊢
  have hl : lv_has ls 3 [(0, .ref (base + 816)), (1, .int p1), (2, .int p2)] := hl
  have hret : ∀ (pc : Nat) (v : VV) (H : Heap) (locs : List Loc) (ls : Array Slot), decode cX10_begin pc = .ok (.return_, 1) → Q v → va_P (dC, dI) vwCl (Wd base cy rf v 874) H → va_S (fun q => base ≤ q) s.heap H locs → W p l e { frames := 1, cells := 0, slots := 0, locals := 21 } s m ([.ref (base + 816), .int p1, .int p2]).toArray below meth c H locs 0 0 (MQ below (va_Qv Q (Hp dC dI base cy) (fun q => base ≤ q)) ([.ref (base + 816), .int p1, .int p2]).toArray s 0 0 (fun q => base ≤ q)) (F0 m pc ls []) := fun pc v H locs ls hd hq hP hS => W.vret hx hb hr (fun t ht hW => ⟨⟨v, rfl, hq, by rw [ht]; exact hP, va_K.moved hW.alike hK⟩, hS.F ht⟩) hS.2.2 hd
  refine lv_aload_n hx hb dX10_begin_0 rfl (lv_at hl 0 rfl) ?_
  refine lv_iconst (v := 1) hx hb dX10_begin_1 (by decide) ?_
  refine w_pI (C := RX10) (T := TX10) (N := 64) (ci := 10) hx hb hts in10 tyX10 tyX10_ok nmX10 hown hK hP hS 63 th10.1 th10 rfl (by decide) (hts _ mf_X10_183) rfl (ty := .int) (by decide +kernel) rfl rfl dX10_begin_2 (fun v1 H locs hv1 hP hz hS => ?_)
  have hw := hw v1 hv1
  refine lv_aload_n hx hb dX10_begin_5 rfl (lv_at hl 0 rfl) ?_
  refine lv_iload_n hx hb dX10_begin_6 rfl (lv_at hl 1 rfl) ?_
  refine k_V (As := [.int p1]) (rest := []) ⟨hx, hb, hml, hown, hts⟩ (t_X10_push l dC dI base cy p1 v1 _ hw) (cwV 1 hts (gV ml_X10_187 mi_X10_push mx_X10_push mn_X10 mo_X10_push) rfl rfl rfl (by decide +kernel) ⟨by decide, by decide⟩) hK hP hS th10 (by decide) rfl rfl hl.1 rfl (Nat.le_of_ble_eq_true rfl) dX10_begin_7 ⟨Nat.zero_le _, Nat.zero_le _⟩ (fun v2 H locs hw hP hS => ?_)
  refine lv_aload_n hx hb dX10_begin_10 rfl (lv_at hl 0 rfl) ?_
  refine lv_iload_n hx hb dX10_begin_11 rfl (lv_at hl 2 rfl) ?_
  refine lv_sipush (v := 256) hx hb dX10_begin_12 (by decide) ?_
  refine lv_idiv hx hb dX10_begin_15 (by decide) ?_
  refine lv_topi (fun x15 ex15 => ?_)
  have hw := hw x15 ex15
  refine k_V (As := [.int x15]) (rest := []) ⟨hx, hb, hml, hown, hts⟩ (t_X10_push l dC dI base cy x15 v2 _ hw) (cwV 1 hts (gV ml_X10_187 mi_X10_push mx_X10_push mn_X10 mo_X10_push) rfl rfl rfl (by decide +kernel) ⟨by decide, by decide⟩) hK hP hS th10 (by decide) rfl rfl hl.1 rfl (Nat.le_of_ble_eq_true rfl) dX10_begin_16 ⟨Nat.zero_le _, Nat.zero_le _⟩ (fun v3 H locs hw hP hS => ?_)
  refine lv_aload_n hx hb dX10_begin_19 rfl (lv_at hl 0 rfl) ?_
  refine lv_iload_n hx hb dX10_begin_20 rfl (lv_at hl 2 rfl) ?_
  refine lv_sipush (v := 256) hx hb dX10_begin_21 (by decide) ?_
  refine lv_irem hx hb dX10_begin_24 (by decide) ?_
  refine lv_topi (fun x24 ex24 => ?_)
  have hw := hw x24 ex24
  refine k_V (As := [.int x24]) (rest := []) ⟨hx, hb, hml, hown, hts⟩ (t_X10_push l dC dI base cy x24 v3 _ hw) (cwV 1 hts (gV ml_X10_187 mi_X10_push mx_X10_push mn_X10 mo_X10_push) rfl rfl rfl (by decide +kernel) ⟨by decide, by decide⟩) hK hP hS th10 (by decide) rfl rfl hl.1 rfl (Nat.le_of_ble_eq_true rfl) dX10_begin_25 ⟨Nat.zero_le _, Nat.zero_le _⟩ (fun v4 H locs hw hP hS => ?_)
  exact hret _ _ _ _ _ dX10_begin_28 hw hP hS
def w_X10_endHead  (v : VV) (Q : VV → Prop) : Prop :=
  w_X10_push 195 v (fun (v1 : VV) => w_X10_push 2 v1 (fun (v2 : VV) => w_X10_push 0 v2 (fun (v3 : VV) => w_X10_push 0 v3 (fun (v4 : VV) => ∀ x28 : Int32, x28 = v4 816 63 → ∀ x32 : Int32, x32 = x28 - 1 → ∀ v5 : VV, v5 = up2 v4 873 (Int32.toNatClampNeg 0) x32 → Q v5))))
set_option maxHeartbeats 4000000 in
set_option maxRecDepth 100000 in
/-- TransportFourModel.endHead -/
theorem t_X10_endHead (l : Launch) (dC : Nat → ClassId) (dI : Nat → Nat → Nat) (base : Nat) (cy : Nat → ClassId)  (v : VV) (Q : VV → Prop) (hw : w_X10_endHead  v Q) : CV l yX10_endHead (.code yX10_endHead cX10_endHead 1 none :: TB) { frames := 1, cells := 0, slots := 0, locals := 21 } dC dI base cy [.ref (base + 816)] v Q := by
  refine Met.ofW (cc := cX10_endHead) (maxL := 1) (ret := none) (by decide) rfl ?_
  intro p e s m args below meth c s₁ B hml hv
  obtain ⟨rfl, hP, hK⟩ := hv
  have hx := B.exec
  have hb := B.bytes
  have hr := B.returns
  have hts0 := atoms_spec (ws := (.code yX10_endHead cX10_endHead 1 none :: TB)) B.pre
  have hts : ∀ w ∈ TB, w.before ([.ref (base + 816)]).toArray s = true := fun w h => hts0 w (List.mem_cons_of_mem _ h)
  have hown : s.vm.findClass RX10 = some m.cls := findClass_of_methodNamed B.named
  have hlocks := B.notSynchronized
  have hS : va_S (fun q => base ≤ q) s.heap s.heap [] := va_S.rf
  have hl := lv_entry ([.ref (base + 816)]) (n := 1) (Nat.le_of_ble_eq_true rfl)
  rw [lg_entry_eq]
  generalize (lg_sl ([.ref (base + 816)]) ++ List.replicate (1 - (lg_sl ([.ref (base + 816)])).length) Slot.unset).toArray = ls at hl ⊢
  have hl : lv_has ls 1 [(0, .ref (base + 816))] := hl
  have hret : ∀ (pc : Nat) (v : VV) (H : Heap) (locs : List Loc) (ls : Array Slot), decode cX10_endHead pc = .ok (.return_, 1) → Q v → va_P (dC, dI) vwCl (Wd base cy rf v 874) H → va_S (fun q => base ≤ q) s.heap H locs → W p l e { frames := 1, cells := 0, slots := 0, locals := 21 } s m ([.ref (base + 816)]).toArray below meth c H locs 0 0 (MQ below (va_Qv Q (Hp dC dI base cy) (fun q => base ≤ q)) ([.ref (base + 816)]).toArray s 0 0 (fun q => base ≤ q)) (F0 m pc ls []) := fun pc v H locs ls hd hq hP hS => W.vret hx hb hr (fun t ht hW => ⟨⟨v, rfl, hq, by rw [ht]; exact hP, va_K.moved hW.alike hK⟩, hS.F ht⟩) hS.2.2 hd
  refine lv_aload_n hx hb dX10_endHead_0 rfl (lv_at hl 0 rfl) ?_
  refine lv_sipush (v := 195) hx hb dX10_endHead_1 (by decide) ?_
  refine k_V (As := [.int 195]) (rest := []) ⟨hx, hb, hml, hown, hts⟩ (t_X10_push l dC dI base cy 195 v _ hw) (cwV 1 hts (gV ml_X10_187 mi_X10_push mx_X10_push mn_X10 mo_X10_push) rfl rfl rfl (by decide +kernel) ⟨by decide, by decide⟩) hK hP hS th10 (by decide) rfl rfl hl.1 rfl (Nat.le_of_ble_eq_true rfl) dX10_endHead_4 ⟨Nat.zero_le _, Nat.zero_le _⟩ (fun v1 H locs hw hP hS => ?_)
  refine lv_aload_n hx hb dX10_endHead_7 rfl (lv_at hl 0 rfl) ?_
  refine lv_iconst (v := 2) hx hb dX10_endHead_8 (by decide) ?_
  refine k_V (As := [.int 2]) (rest := []) ⟨hx, hb, hml, hown, hts⟩ (t_X10_push l dC dI base cy 2 v1 _ hw) (cwV 1 hts (gV ml_X10_187 mi_X10_push mx_X10_push mn_X10 mo_X10_push) rfl rfl rfl (by decide +kernel) ⟨by decide, by decide⟩) hK hP hS th10 (by decide) rfl rfl hl.1 rfl (Nat.le_of_ble_eq_true rfl) dX10_endHead_9 ⟨Nat.zero_le _, Nat.zero_le _⟩ (fun v2 H locs hw hP hS => ?_)
  refine lv_aload_n hx hb dX10_endHead_12 rfl (lv_at hl 0 rfl) ?_
  refine lv_iconst (v := 0) hx hb dX10_endHead_13 (by decide) ?_
  refine k_V (As := [.int 0]) (rest := []) ⟨hx, hb, hml, hown, hts⟩ (t_X10_push l dC dI base cy 0 v2 _ hw) (cwV 1 hts (gV ml_X10_187 mi_X10_push mx_X10_push mn_X10 mo_X10_push) rfl rfl rfl (by decide +kernel) ⟨by decide, by decide⟩) hK hP hS th10 (by decide) rfl rfl hl.1 rfl (Nat.le_of_ble_eq_true rfl) dX10_endHead_14 ⟨Nat.zero_le _, Nat.zero_le _⟩ (fun v3 H locs hw hP hS => ?_)
  refine lv_aload_n hx hb dX10_endHead_17 rfl (lv_at hl 0 rfl) ?_
  refine lv_iconst (v := 0) hx hb dX10_endHead_18 (by decide) ?_
  refine k_V (As := [.int 0]) (rest := []) ⟨hx, hb, hml, hown, hts⟩ (t_X10_push l dC dI base cy 0 v3 _ hw) (cwV 1 hts (gV ml_X10_187 mi_X10_push mx_X10_push mn_X10 mo_X10_push) rfl rfl rfl (by decide +kernel) ⟨by decide, by decide⟩) hK hP hS th10 (by decide) rfl rfl hl.1 rfl (Nat.le_of_ble_eq_true rfl) dX10_endHead_19 ⟨Nat.zero_le _, Nat.zero_le _⟩ (fun v4 H locs hw hP hS => ?_)
  refine lv_aload_n hx hb dX10_endHead_22 rfl (lv_at hl 0 rfl) ?_
  refine w_gR (C := RX10) (T := TX10) (N := 64) (ci := 10) hx hb hts in10 hown hK hP 62 th10.1 th10 rfl (by decide) (ch10_62 th10).1 (hts _ mf_X10_180) dX10_endHead_23 ?_
  refine lv_iconst (v := 0) hx hb dX10_endHead_26 (by decide) ?_
  refine lv_aload_n hx hb dX10_endHead_27 rfl (lv_at hl 0 rfl) ?_
  refine w_gI (C := RX10) (T := TX10) (N := 64) (ci := 10) hx hb hts in10 hown hK hP 63 th10.1 th10 rfl (by decide) (hts _ mf_X10_183) dX10_endHead_28 ?_
  refine lv_topi (fun x28 ex28 => ?_)
  have hw := hw x28 ex28
  refine lv_iconst (v := 1) hx hb dX10_endHead_31 (by decide) ?_
  refine lv_isub hx hb dX10_endHead_32 ?_
  refine lv_topi (fun x32 ex32 => ?_)
  have hw := hw x32 ex32
  refine w_is (N := 20) hx hb hK hP hS (ch10_62 th10).2.1.1 (ch10_62 th10).2.1 (ch10_62 th10).2.2 (vp_in_nI (n := 0) (by decide) (by decide)) dX10_endHead_33 (fun v5 H locs hv5 hP hz hS => ?_)
  have hw := hw v5 hv5
  exact hret _ _ _ _ _ dX10_endHead_34 hw hP hS
def w_X10_mod255 (p1 : Int32) (v : VV) (Q : Int32 → VV → Prop) : Prop :=
  ∀ x4 : Int32, x4 = p1 - p1 / 255 * 255 → (0 ≤ x4 → Q x4 v) ∧ (¬ 0 ≤ x4 → ∀ x14 : Int32, x14 = x4 + 255 → Q x14 v)
set_option maxHeartbeats 4000000 in
set_option maxRecDepth 100000 in
/-- TransportFourModel.mod255 -/
theorem t_X10_mod255 (l : Launch) (dC : Nat → ClassId) (dI : Nat → Nat → Nat) (base : Nat) (cy : Nat → ClassId) (p1 : Int32) (v : VV) (Q : Int32 → VV → Prop) (hw : w_X10_mod255 p1 v Q) : CI l yX10_mod255 (.code yX10_mod255 cX10_mod255 2 (some .int) :: TB) { frames := 0, cells := 0, slots := 0, locals := 0 } dC dI base cy [.int p1] v Q := by
  refine Met.ofW (cc := cX10_mod255) (maxL := 2) (ret := (some .int)) (by decide) rfl ?_
  intro p e s m args below meth c s₁ B hml hv
  obtain ⟨rfl, hP, hK⟩ := hv
  have hx := B.exec
  have hb := B.bytes
  have hr := B.returns
  have hts0 := atoms_spec (ws := (.code yX10_mod255 cX10_mod255 2 (some .int) :: TB)) B.pre
  have hts : ∀ w ∈ TB, w.before ([.int p1]).toArray s = true := fun w h => hts0 w (List.mem_cons_of_mem _ h)
  have hown : s.vm.findClass RX10 = some m.cls := findClass_of_methodNamed B.named
  have hlocks := B.notSynchronized
  have hS : va_S (fun q => base ≤ q) s.heap s.heap [] := va_S.rf
  have hl := lv_entry ([.int p1]) (n := 2) (Nat.le_of_ble_eq_true rfl)
  rw [lg_entry_eq]
  generalize (lg_sl ([.int p1]) ++ List.replicate (2 - (lg_sl ([.int p1])).length) Slot.unset).toArray = ls at hl ⊢
  have hl : lv_has ls 2 [(0, .int p1)] := hl
  have hret : ∀ (pc : Nat) (x : Int32) (v : VV) (H : Heap) (locs : List Loc) (ls : Array Slot), decode cX10_mod255 pc = .ok (.ireturn, 1) → Q x v → va_P (dC, dI) vwCl (Wd base cy rf v 874) H → va_S (fun q => base ≤ q) s.heap H locs → W p l e { frames := 0, cells := 0, slots := 0, locals := 0 } s m ([.int p1]).toArray below meth c H locs 0 0 (MQ below (va_Qi Q (Hp dC dI base cy) (fun q => base ≤ q)) ([.int p1]).toArray s 0 0 (fun q => base ≤ q)) (F0 m pc ls [.int x]) := fun pc x v H locs ls hd hq hP hS => W.iret (v := x) hx hb hr (fun t ht hW => ⟨⟨x, v, rfl, hq, by rw [ht]; exact hP, va_K.moved hW.alike hK⟩, hS.F ht⟩) hS.2.2 hd
  refine lv_iload_n hx hb dX10_mod255_0 rfl (lv_at hl 0 rfl) ?_
  refine lv_sipush (v := 255) hx hb dX10_mod255_1 (by decide) ?_
  refine lv_irem hx hb dX10_mod255_4 (by decide) ?_
  refine lv_topi (fun x4 ex4 => ?_)
  have hw := hw x4 ex4
  refine lv_istore_n (lv' := [(1, .int x4), (0, .int p1)]) hx hb dX10_mod255_5 rfl hl (by decide) rfl (fun ls hl => ?_)
  refine lv_iload_n hx hb dX10_mod255_6 rfl (lv_at hl 0 rfl) ?_
  refine lv_if_ge (tgt := 18) hx hb dX10_mod255_7 (by decide) (fun c7 => ?_) (fun c7 => ?_)
  · have hw := hw.1 c7
    refine lv_iload_n hx hb dX10_mod255_18 rfl (lv_at hl 0 rfl) ?_
    exact hret _ _ _ _ _ _ dX10_mod255_19 hw hP hS
  · have hw := hw.2 c7
    refine lv_iload_n hx hb dX10_mod255_10 rfl (lv_at hl 0 rfl) ?_
    refine lv_sipush (v := 255) hx hb dX10_mod255_11 (by decide) ?_
    refine lv_iadd hx hb dX10_mod255_14 ?_
    refine lv_topi (fun x14 ex14 => ?_)
    have hw := hw x14 ex14
    refine lv_goto (tgt := 19) hx hb dX10_mod255_15 (by decide) ?_
    exact hret _ _ _ _ _ _ dX10_mod255_19 hw hP hS
def b_X10_check_6  (Q : VV → Prop) (fu : Nat) : Int32 → Int32 → Int32 → VV → Prop :=
  Nat.rec (motive := fun _ => Int32 → Int32 → Int32 → VV → Prop) (fun _ _ _ _ => False) (fun _ ih a1 a2 a3 v => ∀ x8 : Int32, x8 = v 816 63 → (x8 < a3 → ∀ x56 : Int32, x56 = v 873 (Int32.toNatClampNeg 0) → ∀ x64 : Int32, x64 = x56 - 1 → ∀ x66 : Int32, x66 = v 816 63 → ∀ x70 : Int32, x70 = x66 - x56 → ∀ x72 : Int32, x72 = x70 * a1 → ∀ x74 : Int32, x74 = x72 - a2 → w_X10_mod255 x74 v (fun (x75 : Int32) (v1 : VV) => vp_in x64 20 ∧ ∀ v2 : VV, v2 = up2 v1 873 (Int32.toNatClampNeg x64) x75 → ∀ x86 : Int32, x86 = v2 816 63 → ∀ x90 : Int32, x90 = x86 - x56 → ∀ x92 : Int32, x92 = x90 + 1 → ∀ x94 : Int32, x94 = x92 * a1 → ∀ x95 : Int32, x95 = a2 - x94 → w_X10_mod255 x95 v2 (fun (x96 : Int32) (v4 : VV) => vp_in x56 20 ∧ ∀ v5 : VV, v5 = up2 v4 873 (Int32.toNatClampNeg x56) x96 → Q v5))) ∧ (¬ x8 < a3 → ∀ x21 : Int32, x21 = a3 - 1 → vp_in x21 20 ∧ ∀ x22 : Int32, x22 = v 873 (Int32.toNatClampNeg x21) → ∀ x23 : Int32, x23 = a1 + x22 → ∀ x27 : Int32, x27 = v 816 63 → ∀ x31 : Int32, x31 = x27 - a3 → ∀ x33 : Int32, x33 = x31 + 1 → ∀ x40 : Int32, x40 = a3 - 1 → vp_in x40 20 ∧ ∀ x41 : Int32, x41 = v 873 (Int32.toNatClampNeg x40) → ∀ x42 : Int32, x42 = x33 * x41 → ∀ x43 : Int32, x43 = a2 + x42 → ∀ x45 : Int32, x45 = a3 + 1 → ih x23 x43 x45 v)) fu
set_option maxHeartbeats 4000000 in
set_option maxRecDepth 100000 in
theorem tb_X10_check_6 {p : Program} {l : Launch} {e : Env} {s : State} {m : MethodId} {args : Array Value} {below : List Frame} {meth : Method} {c : Code} {QQ : State → Prop} {dC : Nat → ClassId} {dI : Nat → Nat → Nat} {base : Nat} {cy : Nat → ClassId} (hx : p.tables.exec = Jvm.exec) (hb : c.code = cX10_check) (hml : c.maxLocals = 4) (hown : s.vm.findClass RX10 = some m.cls) (hts : ∀ w ∈ TB, w.before args s = true) (hK : va_K (dC, dI) vwCl (tyL cy) s)  (Q : VV → Prop) (hret : ∀ (pc : Nat) (v : VV) (H : Heap) (locs : List Loc) (ls : Array Slot), decode cX10_check pc = .ok (.return_, 1) → Q v → va_P (dC, dI) vwCl (Wd base cy rf v 874) H → va_S (fun q => base ≤ q) s.heap H locs → W p l e { frames := 1, cells := 0, slots := 0, locals := 21 } s m args below meth c H locs 0 0 QQ (F0 m pc ls [])) : ∀ (fu : Nat) (a1 : Int32) (a2 : Int32) (a3 : Int32) (v : VV) (H : Heap) (locs : List Loc) (ls : Array Slot), b_X10_check_6  Q  fu a1 a2 a3 v → lv_has ls 4 [(0, .ref (base + 816)), (1, .int a1), (2, .int a2), (3, .int a3)] → va_P (dC, dI) vwCl (Wd base cy rf v 874) H → va_S (fun q => base ≤ q) s.heap H locs → W p l e { frames := 1, cells := 0, slots := 0, locals := 21 } s m args below meth c H locs 0 0 QQ (F0 m 6 ls []) := by
  intro fu
  induction fu with
  | zero =>
    intro a1 a2 a3 v H locs ls hw hl hP hS
    exact hw.elim
  | succ fu ih =>
    intro a1 a2 a3 v H locs ls hw hl hP hS
    refine lv_iload_n hx hb dX10_check_6 rfl (lv_at hl 3 rfl) ?_
    refine lv_aload_n hx hb dX10_check_7 rfl (lv_at hl 0 rfl) ?_
    refine w_gI (C := RX10) (T := TX10) (N := 64) (ci := 10) hx hb hts in10 hown hK hP 63 th10.1 th10 rfl (by decide) (hts _ mf_X10_183) dX10_check_8 ?_
    refine lv_topi (fun x8 ex8 => ?_)
    have hw := hw x8 ex8
    refine lv_icmp_gt (tgt := 51) hx hb dX10_check_11 (by decide) (fun c11 => ?_) (fun c11 => ?_)
    · have hw := hw.1 c11
      refine lv_aload_n hx hb dX10_check_51 rfl (lv_at hl 0 rfl) ?_
      refine w_gR (C := RX10) (T := TX10) (N := 64) (ci := 10) hx hb hts in10 hown hK hP 62 th10.1 th10 rfl (by decide) (ch10_62 th10).1 (hts _ mf_X10_180) dX10_check_52 ?_
      refine lv_iconst (v := 0) hx hb dX10_check_55 (by decide) ?_
      refine w_ia (N := 20) hx hb hK hP (ch10_62 th10).2.1.1 (ch10_62 th10).2.1 (ch10_62 th10).2.2 (vp_in_nI (n := 0) (by decide) (by decide)) dX10_check_56 ?_
      refine lv_topi (fun x56 ex56 => ?_)
      have hw := hw x56 ex56
      refine lv_istore_n (lv' := [(3, .int x56), (0, .ref (base + 816)), (1, .int a1), (2, .int a2)]) hx hb dX10_check_57 rfl hl (by decide) rfl (fun ls hl => ?_)
      refine lv_aload_n hx hb dX10_check_58 rfl (lv_at hl 1 rfl) ?_
      refine w_gR (C := RX10) (T := TX10) (N := 64) (ci := 10) hx hb hts in10 hown hK hP 62 th10.1 th10 rfl (by decide) (ch10_62 th10).1 (hts _ mf_X10_180) dX10_check_59 ?_
      refine lv_iload_n hx hb dX10_check_62 rfl (lv_at hl 0 rfl) ?_
      refine lv_iconst (v := 1) hx hb dX10_check_63 (by decide) ?_
      refine lv_isub hx hb dX10_check_64 ?_
      refine lv_topi (fun x64 ex64 => ?_)
      have hw := hw x64 ex64
      refine lv_aload_n hx hb dX10_check_65 rfl (lv_at hl 1 rfl) ?_
      refine w_gI (C := RX10) (T := TX10) (N := 64) (ci := 10) hx hb hts in10 hown hK hP 63 th10.1 th10 rfl (by decide) (hts _ mf_X10_183) dX10_check_66 ?_
      refine lv_topi (fun x66 ex66 => ?_)
      have hw := hw x66 ex66
      refine lv_iload_n hx hb dX10_check_69 rfl (lv_at hl 0 rfl) ?_
      refine lv_isub hx hb dX10_check_70 ?_
      refine lv_topi (fun x70 ex70 => ?_)
      have hw := hw x70 ex70
      refine lv_iload_n hx hb dX10_check_71 rfl (lv_at hl 2 rfl) ?_
      refine lv_imul hx hb dX10_check_72 ?_
      refine lv_topi (fun x72 ex72 => ?_)
      have hw := hw x72 ex72
      refine lv_iload_n hx hb dX10_check_73 rfl (lv_at hl 3 rfl) ?_
      refine lv_isub hx hb dX10_check_74 ?_
      refine lv_topi (fun x74 ex74 => ?_)
      have hw := hw x74 ex74
      refine kS_I (As := [.int x74]) (rest := [.int x64, .ref (base + 873)]) ⟨hx, hb, hml, hown, hts⟩ (t_X10_mod255 l dC dI base cy x74 v _ hw) (cwS 1 hts (gS ml_X10_191 mt_X10_mod255 mn_X10 mo_X10_mod255) rfl rfl rfl (by decide +kernel) ⟨by decide, by decide⟩) hK hP hS rfl hl.1 rfl (Nat.le_of_ble_eq_true rfl) dX10_check_75 ⟨Nat.zero_le _, Nat.zero_le _⟩ (fun x75 v1 H locs hw hP hS => ?_)
      obtain ⟨hi3, hw⟩ := hw
      refine w_is (N := 20) hx hb hK hP hS (ch10_62 th10).2.1.1 (ch10_62 th10).2.1 (ch10_62 th10).2.2 hi3 dX10_check_78 (fun v2 H locs hv2 hP hz hS => ?_)
      have hw := hw v2 hv2
      refine lv_aload_n hx hb dX10_check_79 rfl (lv_at hl 1 rfl) ?_
      refine w_gR (C := RX10) (T := TX10) (N := 64) (ci := 10) hx hb hts in10 hown hK hP 62 th10.1 th10 rfl (by decide) (ch10_62 th10).1 (hts _ mf_X10_180) dX10_check_80 ?_
      refine lv_iload_n hx hb dX10_check_83 rfl (lv_at hl 0 rfl) ?_
      refine lv_iload_n hx hb dX10_check_84 rfl (lv_at hl 3 rfl) ?_
      refine lv_aload_n hx hb dX10_check_85 rfl (lv_at hl 1 rfl) ?_
      refine w_gI (C := RX10) (T := TX10) (N := 64) (ci := 10) hx hb hts in10 hown hK hP 63 th10.1 th10 rfl (by decide) (hts _ mf_X10_183) dX10_check_86 ?_
      refine lv_topi (fun x86 ex86 => ?_)
      have hw := hw x86 ex86
      refine lv_iload_n hx hb dX10_check_89 rfl (lv_at hl 0 rfl) ?_
      refine lv_isub hx hb dX10_check_90 ?_
      refine lv_topi (fun x90 ex90 => ?_)
      have hw := hw x90 ex90
      refine lv_iconst (v := 1) hx hb dX10_check_91 (by decide) ?_
      refine lv_iadd hx hb dX10_check_92 ?_
      refine lv_topi (fun x92 ex92 => ?_)
      have hw := hw x92 ex92
      refine lv_iload_n hx hb dX10_check_93 rfl (lv_at hl 2 rfl) ?_
      refine lv_imul hx hb dX10_check_94 ?_
      refine lv_topi (fun x94 ex94 => ?_)
      have hw := hw x94 ex94
      refine lv_isub hx hb dX10_check_95 ?_
      refine lv_topi (fun x95 ex95 => ?_)
      have hw := hw x95 ex95
      refine kS_I (As := [.int x95]) (rest := [.int x56, .ref (base + 873)]) ⟨hx, hb, hml, hown, hts⟩ (t_X10_mod255 l dC dI base cy x95 v2 _ hw) (cwS 1 hts (gS ml_X10_191 mt_X10_mod255 mn_X10 mo_X10_mod255) rfl rfl rfl (by decide +kernel) ⟨by decide, by decide⟩) hK hP hS rfl hl.1 rfl (Nat.le_of_ble_eq_true rfl) dX10_check_96 ⟨Nat.zero_le _, Nat.zero_le _⟩ (fun x96 v4 H locs hw hP hS => ?_)
      obtain ⟨hi6, hw⟩ := hw
      refine w_is (N := 20) hx hb hK hP hS (ch10_62 th10).2.1.1 (ch10_62 th10).2.1 (ch10_62 th10).2.2 hi6 dX10_check_99 (fun v5 H locs hv5 hP hz hS => ?_)
      have hw := hw v5 hv5
      exact hret _ _ _ _ _ dX10_check_100 hw hP hS
    · have hw := hw.2 c11
      refine lv_iload_n hx hb dX10_check_14 rfl (lv_at hl 1 rfl) ?_
      refine lv_aload_n hx hb dX10_check_15 rfl (lv_at hl 0 rfl) ?_
      refine w_gR (C := RX10) (T := TX10) (N := 64) (ci := 10) hx hb hts in10 hown hK hP 62 th10.1 th10 rfl (by decide) (ch10_62 th10).1 (hts _ mf_X10_180) dX10_check_16 ?_
      refine lv_iload_n hx hb dX10_check_19 rfl (lv_at hl 3 rfl) ?_
      refine lv_iconst (v := 1) hx hb dX10_check_20 (by decide) ?_
      refine lv_isub hx hb dX10_check_21 ?_
      refine lv_topi (fun x21 ex21 => ?_)
      have hw := hw x21 ex21
      obtain ⟨hi7, hw⟩ := hw
      refine w_ia (N := 20) hx hb hK hP (ch10_62 th10).2.1.1 (ch10_62 th10).2.1 (ch10_62 th10).2.2 hi7 dX10_check_22 ?_
      refine lv_topi (fun x22 ex22 => ?_)
      have hw := hw x22 ex22
      refine lv_iadd hx hb dX10_check_23 ?_
      refine lv_topi (fun x23 ex23 => ?_)
      have hw := hw x23 ex23
      refine lv_istore_n (lv' := [(1, .int x23), (0, .ref (base + 816)), (2, .int a2), (3, .int a3)]) hx hb dX10_check_24 rfl hl (by decide) rfl (fun ls hl => ?_)
      refine lv_iload_n hx hb dX10_check_25 rfl (lv_at hl 2 rfl) ?_
      refine lv_aload_n hx hb dX10_check_26 rfl (lv_at hl 1 rfl) ?_
      refine w_gI (C := RX10) (T := TX10) (N := 64) (ci := 10) hx hb hts in10 hown hK hP 63 th10.1 th10 rfl (by decide) (hts _ mf_X10_183) dX10_check_27 ?_
      refine lv_topi (fun x27 ex27 => ?_)
      have hw := hw x27 ex27
      refine lv_iload_n hx hb dX10_check_30 rfl (lv_at hl 3 rfl) ?_
      refine lv_isub hx hb dX10_check_31 ?_
      refine lv_topi (fun x31 ex31 => ?_)
      have hw := hw x31 ex31
      refine lv_iconst (v := 1) hx hb dX10_check_32 (by decide) ?_
      refine lv_iadd hx hb dX10_check_33 ?_
      refine lv_topi (fun x33 ex33 => ?_)
      have hw := hw x33 ex33
      refine lv_aload_n hx hb dX10_check_34 rfl (lv_at hl 1 rfl) ?_
      refine w_gR (C := RX10) (T := TX10) (N := 64) (ci := 10) hx hb hts in10 hown hK hP 62 th10.1 th10 rfl (by decide) (ch10_62 th10).1 (hts _ mf_X10_180) dX10_check_35 ?_
      refine lv_iload_n hx hb dX10_check_38 rfl (lv_at hl 3 rfl) ?_
      refine lv_iconst (v := 1) hx hb dX10_check_39 (by decide) ?_
      refine lv_isub hx hb dX10_check_40 ?_
      refine lv_topi (fun x40 ex40 => ?_)
      have hw := hw x40 ex40
      obtain ⟨hi8, hw⟩ := hw
      refine w_ia (N := 20) hx hb hK hP (ch10_62 th10).2.1.1 (ch10_62 th10).2.1 (ch10_62 th10).2.2 hi8 dX10_check_41 ?_
      refine lv_topi (fun x41 ex41 => ?_)
      have hw := hw x41 ex41
      refine lv_imul hx hb dX10_check_42 ?_
      refine lv_topi (fun x42 ex42 => ?_)
      have hw := hw x42 ex42
      refine lv_iadd hx hb dX10_check_43 ?_
      refine lv_topi (fun x43 ex43 => ?_)
      have hw := hw x43 ex43
      refine lv_istore_n (lv' := [(2, .int x43), (1, .int x23), (0, .ref (base + 816)), (3, .int a3)]) hx hb dX10_check_44 rfl hl (by decide) rfl (fun ls hl => ?_)
      obtain ⟨x45, ex45⟩ : ∃ y : Int32, y = a3 + 1 := ⟨_, rfl⟩
      have hw := hw x45 ex45
      refine lv_iinc (v := x45) (lv' := [(3, .int x45), (2, .int x43), (1, .int x23), (0, .ref (base + 816))]) hx hb dX10_check_45 hl (k := 3) rfl (by rw [ex45]; first | rfl | (rw [show Int32.ofInt (-1) = (-1 : Int32) from by decide])) (by decide) rfl (fun ls hl => ?_)
      refine lv_goto (tgt := 6) hx hb dX10_check_48 (by decide) ?_
      exact ih x23 x43 x45 v _ _ _ hw (lv_sub hl [3, 2, 1, 0] rfl) hP hS
def w_X10_check  (v : VV) (Q : VV → Prop) : Prop :=
  ∃ fu : Nat, b_X10_check_6  Q  fu 0 0 1 v
set_option maxHeartbeats 4000000 in
set_option maxRecDepth 100000 in
/-- TransportFourModel.check -/
theorem t_X10_check (l : Launch) (dC : Nat → ClassId) (dI : Nat → Nat → Nat) (base : Nat) (cy : Nat → ClassId)  (v : VV) (Q : VV → Prop) (hw : w_X10_check  v Q) : CV l yX10_check (.code yX10_check cX10_check 4 none :: TB) { frames := 1, cells := 0, slots := 0, locals := 21 } dC dI base cy [.ref (base + 816)] v Q := by
  refine Met.ofW (cc := cX10_check) (maxL := 4) (ret := none) (by decide) rfl ?_
  intro p e s m args below meth c s₁ B hml hv
  obtain ⟨rfl, hP, hK⟩ := hv
  have hx := B.exec
  have hb := B.bytes
  have hr := B.returns
  have hts0 := atoms_spec (ws := (.code yX10_check cX10_check 4 none :: TB)) B.pre
  have hts : ∀ w ∈ TB, w.before ([.ref (base + 816)]).toArray s = true := fun w h => hts0 w (List.mem_cons_of_mem _ h)
  have hown : s.vm.findClass RX10 = some m.cls := findClass_of_methodNamed B.named
  have hlocks := B.notSynchronized
  have hS : va_S (fun q => base ≤ q) s.heap s.heap [] := va_S.rf
  have hl := lv_entry ([.ref (base + 816)]) (n := 4) (Nat.le_of_ble_eq_true rfl)
  rw [lg_entry_eq]
  generalize (lg_sl ([.ref (base + 816)]) ++ List.replicate (4 - (lg_sl ([.ref (base + 816)])).length) Slot.unset).toArray = ls at hl ⊢
  have hl : lv_has ls 4 [(0, .ref (base + 816))] := hl
  have hret : ∀ (pc : Nat) (v : VV) (H : Heap) (locs : List Loc) (ls : Array Slot), decode cX10_check pc = .ok (.return_, 1) → Q v → va_P (dC, dI) vwCl (Wd base cy rf v 874) H → va_S (fun q => base ≤ q) s.heap H locs → W p l e { frames := 1, cells := 0, slots := 0, locals := 21 } s m ([.ref (base + 816)]).toArray below meth c H locs 0 0 (MQ below (va_Qv Q (Hp dC dI base cy) (fun q => base ≤ q)) ([.ref (base + 816)]).toArray s 0 0 (fun q => base ≤ q)) (F0 m pc ls []) := fun pc v H locs ls hd hq hP hS => W.vret hx hb hr (fun t ht hW => ⟨⟨v, rfl, hq, by rw [ht]; exact hP, va_K.moved hW.alike hK⟩, hS.F ht⟩) hS.2.2 hd
  refine lv_iconst (v := 0) hx hb dX10_check_0 (by decide) ?_
  refine lv_istore_n (lv' := [(1, .int 0), (0, .ref (base + 816))]) hx hb dX10_check_1 rfl hl (by decide) rfl (fun ls hl => ?_)
  refine lv_iconst (v := 0) hx hb dX10_check_2 (by decide) ?_
  refine lv_istore_n (lv' := [(2, .int 0), (1, .int 0), (0, .ref (base + 816))]) hx hb dX10_check_3 rfl hl (by decide) rfl (fun ls hl => ?_)
  refine lv_iconst (v := 1) hx hb dX10_check_4 (by decide) ?_
  refine lv_istore_n (lv' := [(3, .int 1), (2, .int 0), (1, .int 0), (0, .ref (base + 816))]) hx hb dX10_check_5 rfl hl (by decide) rfl (fun ls hl => ?_)
  obtain ⟨fu, hw⟩ := hw
  exact tb_X10_check_6 hx hb hml hown hts hK  _ hret  fu 0 0 1 v _ _ _ hw (lv_sub hl [3, 2, 1, 0] rfl) hP hS
def b_X10_sendMade_11 (p1 : Int32) (Q : VV → Prop) (fu : Nat) : Int32 → Int32 → Int32 → VV → Prop :=
  Nat.rec (motive := fun _ => Int32 → Int32 → Int32 → VV → Prop) (fun _ _ _ _ => False) (fun _ ih a1 a2 a3 v => ∀ x13 : Int32, x13 = v 816 63 → (x13 ≤ a3 → ∀ x48 : Int32, x48 = v 816 63 → vp_in a2 4096 ∧ ∀ v1 : VV, v1 = up2 v 869 (Int32.toNatClampNeg a2) x48 → ∀ x59 : Int32, x59 = 1 - a1 → vp_in a2 4096 ∧ ∀ v3 : VV, v3 = up2 v1 870 (Int32.toNatClampNeg a2) x59 → ∀ x67 : Int32, x67 = v3 816 0 → vp_in a2 4096 ∧ ∀ v5 : VV, v5 = up2 v3 871 (Int32.toNatClampNeg a2) x67 → ∀ x73 : Int32, x73 = v5 816 54 → ∀ x77 : Int32, x77 = x73 + 1 → ∀ v7 : VV, v7 = up2 v5 816 54 x77 → ∀ x87 : Int32, x87 = v7 816 0 → vp_in a1 2 ∧ ∀ v8 : VV, v8 = up2 v7 823 (Int32.toNatClampNeg a1) x87 → Q v8) ∧ (¬ x13 ≤ a3 → ∀ x26 : Int32, x26 = 20 * a2 → ∀ x28 : Int32, x28 = x26 + a3 → vp_in a3 20 ∧ ∀ x34 : Int32, x34 = v 873 (Int32.toNatClampNeg a3) → vp_in x28 81920 ∧ ∀ v11 : VV, v11 = up2 v 868 (Int32.toNatClampNeg x28) x34 → ∀ x36 : Int32, x36 = a3 + 1 → ih a1 a2 x36 v11)) fu
set_option maxHeartbeats 4000000 in
set_option maxRecDepth 100000 in
theorem tb_X10_sendMade_11 {p : Program} {l : Launch} {e : Env} {s : State} {m : MethodId} {args : Array Value} {below : List Frame} {meth : Method} {c : Code} {QQ : State → Prop} {dC : Nat → ClassId} {dI : Nat → Nat → Nat} {base : Nat} {cy : Nat → ClassId} (hx : p.tables.exec = Jvm.exec) (hb : c.code = cX10_sendMade) (hml : c.maxLocals = 4) (hown : s.vm.findClass RX10 = some m.cls) (hts : ∀ w ∈ TB, w.before args s = true) (hK : va_K (dC, dI) vwCl (tyL cy) s) (p1 : Int32) (Q : VV → Prop) (hret : ∀ (pc : Nat) (v : VV) (H : Heap) (locs : List Loc) (ls : Array Slot), decode cX10_sendMade pc = .ok (.return_, 1) → Q v → va_P (dC, dI) vwCl (Wd base cy rf v 874) H → va_S (fun q => base ≤ q) s.heap H locs → W p l e { frames := 0, cells := 0, slots := 0, locals := 0 } s m args below meth c H locs 0 0 QQ (F0 m pc ls [])) : ∀ (fu : Nat) (a1 : Int32) (a2 : Int32) (a3 : Int32) (v : VV) (H : Heap) (locs : List Loc) (ls : Array Slot), b_X10_sendMade_11 p1 Q  fu a1 a2 a3 v → lv_has ls 4 [(0, .ref (base + 816)), (1, .int a1), (2, .int a2), (3, .int a3)] → va_P (dC, dI) vwCl (Wd base cy rf v 874) H → va_S (fun q => base ≤ q) s.heap H locs → W p l e { frames := 0, cells := 0, slots := 0, locals := 0 } s m args below meth c H locs 0 0 QQ (F0 m 11 ls []) := by
  intro fu
  induction fu with
  | zero =>
    intro a1 a2 a3 v H locs ls hw hl hP hS
    exact hw.elim
  | succ fu ih =>
    intro a1 a2 a3 v H locs ls hw hl hP hS
    refine lv_iload_n hx hb dX10_sendMade_11 rfl (lv_at hl 3 rfl) ?_
    refine lv_aload_n hx hb dX10_sendMade_12 rfl (lv_at hl 0 rfl) ?_
    refine w_gI (C := RX10) (T := TX10) (N := 64) (ci := 10) hx hb hts in10 hown hK hP 63 th10.1 th10 rfl (by decide) (hts _ mf_X10_183) dX10_sendMade_13 ?_
    refine lv_topi (fun x13 ex13 => ?_)
    have hw := hw x13 ex13
    refine lv_icmp_ge (tgt := 42) hx hb dX10_sendMade_16 (by decide) (fun c16 => ?_) (fun c16 => ?_)
    · have hw := hw.1 c16
      refine lv_aload_n hx hb dX10_sendMade_42 rfl (lv_at hl 0 rfl) ?_
      refine w_gR (C := RX10) (T := TX10) (N := 64) (ci := 10) hx hb hts in10 hown hK hP 57 th10.1 th10 rfl (by decide) (ch10_57 th10).1 (hts _ mf_X10_168) dX10_sendMade_43 ?_
      refine lv_iload_n hx hb dX10_sendMade_46 rfl (lv_at hl 2 rfl) ?_
      refine lv_aload_n hx hb dX10_sendMade_47 rfl (lv_at hl 0 rfl) ?_
      refine w_gI (C := RX10) (T := TX10) (N := 64) (ci := 10) hx hb hts in10 hown hK hP 63 th10.1 th10 rfl (by decide) (hts _ mf_X10_183) dX10_sendMade_48 ?_
      refine lv_topi (fun x48 ex48 => ?_)
      have hw := hw x48 ex48
      obtain ⟨hi2, hw⟩ := hw
      refine w_is (N := 4096) hx hb hK hP hS (ch10_57 th10).2.1.1 (ch10_57 th10).2.1 (ch10_57 th10).2.2 hi2 dX10_sendMade_51 (fun v1 H locs hv1 hP hz hS => ?_)
      have hw := hw v1 hv1
      refine lv_aload_n hx hb dX10_sendMade_52 rfl (lv_at hl 0 rfl) ?_
      refine w_gR (C := RX10) (T := TX10) (N := 64) (ci := 10) hx hb hts in10 hown hK hP 58 th10.1 th10 rfl (by decide) (ch10_58 th10).1 (hts _ mf_X10_171) dX10_sendMade_53 ?_
      refine lv_iload_n hx hb dX10_sendMade_56 rfl (lv_at hl 2 rfl) ?_
      refine lv_iconst (v := 1) hx hb dX10_sendMade_57 (by decide) ?_
      refine lv_iload_n hx hb dX10_sendMade_58 rfl (lv_at hl 1 rfl) ?_
      refine lv_isub hx hb dX10_sendMade_59 ?_
      refine lv_topi (fun x59 ex59 => ?_)
      have hw := hw x59 ex59
      obtain ⟨hi4, hw⟩ := hw
      refine w_is (N := 4096) hx hb hK hP hS (ch10_58 th10).2.1.1 (ch10_58 th10).2.1 (ch10_58 th10).2.2 hi4 dX10_sendMade_60 (fun v3 H locs hv3 hP hz hS => ?_)
      have hw := hw v3 hv3
      refine lv_aload_n hx hb dX10_sendMade_61 rfl (lv_at hl 0 rfl) ?_
      refine w_gR (C := RX10) (T := TX10) (N := 64) (ci := 10) hx hb hts in10 hown hK hP 59 th10.1 th10 rfl (by decide) (ch10_59 th10).1 (hts _ mf_X10_174) dX10_sendMade_62 ?_
      refine lv_iload_n hx hb dX10_sendMade_65 rfl (lv_at hl 2 rfl) ?_
      refine lv_aload_n hx hb dX10_sendMade_66 rfl (lv_at hl 0 rfl) ?_
      refine w_gI (C := RX10) (T := TX10) (N := 64) (ci := 10) hx hb hts in10 hown hK hP 0 th10.1 th10 rfl (by decide) (hts _ mf_X10_198) dX10_sendMade_67 ?_
      refine lv_topi (fun x67 ex67 => ?_)
      have hw := hw x67 ex67
      obtain ⟨hi6, hw⟩ := hw
      refine w_is (N := 4096) hx hb hK hP hS (ch10_59 th10).2.1.1 (ch10_59 th10).2.1 (ch10_59 th10).2.2 hi6 dX10_sendMade_70 (fun v5 H locs hv5 hP hz hS => ?_)
      have hw := hw v5 hv5
      refine lv_aload_n hx hb dX10_sendMade_71 rfl (lv_at hl 0 rfl) ?_
      refine lv_dup hx hb dX10_sendMade_72 rfl ?_
      refine w_gI (C := RX10) (T := TX10) (N := 64) (ci := 10) hx hb hts in10 hown hK hP 54 th10.1 th10 rfl (by decide) (hts _ mf_X10_195) dX10_sendMade_73 ?_
      refine lv_topi (fun x73 ex73 => ?_)
      have hw := hw x73 ex73
      refine lv_iconst (v := 1) hx hb dX10_sendMade_76 (by decide) ?_
      refine lv_iadd hx hb dX10_sendMade_77 ?_
      refine lv_topi (fun x77 ex77 => ?_)
      have hw := hw x77 ex77
      refine w_pI (C := RX10) (T := TX10) (N := 64) (ci := 10) hx hb hts in10 tyX10 tyX10_ok nmX10 hown hK hP hS 54 th10.1 th10 rfl (by decide) (hts _ mf_X10_195) rfl (ty := .int) (by decide +kernel) rfl rfl dX10_sendMade_78 (fun v7 H locs hv7 hP hz hS => ?_)
      have hw := hw v7 hv7
      refine lv_aload_n hx hb dX10_sendMade_81 rfl (lv_at hl 0 rfl) ?_
      refine w_gR (C := RX10) (T := TX10) (N := 64) (ci := 10) hx hb hts in10 hown hK hP 7 th10.1 th10 rfl (by decide) (ch10_7 th10).1 (hts _ mf_X10_29) dX10_sendMade_82 ?_
      refine lv_iload_n hx hb dX10_sendMade_85 rfl (lv_at hl 1 rfl) ?_
      refine lv_aload_n hx hb dX10_sendMade_86 rfl (lv_at hl 0 rfl) ?_
      refine w_gI (C := RX10) (T := TX10) (N := 64) (ci := 10) hx hb hts in10 hown hK hP 0 th10.1 th10 rfl (by decide) (hts _ mf_X10_198) dX10_sendMade_87 ?_
      refine lv_topi (fun x87 ex87 => ?_)
      have hw := hw x87 ex87
      obtain ⟨hi9, hw⟩ := hw
      refine w_is (N := 2) hx hb hK hP hS (ch10_7 th10).2.1.1 (ch10_7 th10).2.1 (ch10_7 th10).2.2 hi9 dX10_sendMade_90 (fun v8 H locs hv8 hP hz hS => ?_)
      have hw := hw v8 hv8
      exact hret _ _ _ _ _ dX10_sendMade_91 hw hP hS
    · have hw := hw.2 c16
      refine lv_aload_n hx hb dX10_sendMade_19 rfl (lv_at hl 0 rfl) ?_
      refine w_gR (C := RX10) (T := TX10) (N := 64) (ci := 10) hx hb hts in10 hown hK hP 56 th10.1 th10 rfl (by decide) (ch10_56 th10).1 (hts _ mf_X10_165) dX10_sendMade_20 ?_
      refine lv_bipush (v := 20) hx hb dX10_sendMade_23 (by decide) ?_
      refine lv_iload_n hx hb dX10_sendMade_25 rfl (lv_at hl 2 rfl) ?_
      refine lv_imul hx hb dX10_sendMade_26 ?_
      refine lv_topi (fun x26 ex26 => ?_)
      have hw := hw x26 ex26
      refine lv_iload_n hx hb dX10_sendMade_27 rfl (lv_at hl 3 rfl) ?_
      refine lv_iadd hx hb dX10_sendMade_28 ?_
      refine lv_topi (fun x28 ex28 => ?_)
      have hw := hw x28 ex28
      refine lv_aload_n hx hb dX10_sendMade_29 rfl (lv_at hl 0 rfl) ?_
      refine w_gR (C := RX10) (T := TX10) (N := 64) (ci := 10) hx hb hts in10 hown hK hP 62 th10.1 th10 rfl (by decide) (ch10_62 th10).1 (hts _ mf_X10_180) dX10_sendMade_30 ?_
      refine lv_iload_n hx hb dX10_sendMade_33 rfl (lv_at hl 3 rfl) ?_
      obtain ⟨hi10, hw⟩ := hw
      refine w_ia (N := 20) hx hb hK hP (ch10_62 th10).2.1.1 (ch10_62 th10).2.1 (ch10_62 th10).2.2 hi10 dX10_sendMade_34 ?_
      refine lv_topi (fun x34 ex34 => ?_)
      have hw := hw x34 ex34
      obtain ⟨hi12, hw⟩ := hw
      refine w_is (N := 81920) hx hb hK hP hS (ch10_56 th10).2.1.1 (ch10_56 th10).2.1 (ch10_56 th10).2.2 hi12 dX10_sendMade_35 (fun v11 H locs hv11 hP hz hS => ?_)
      have hw := hw v11 hv11
      obtain ⟨x36, ex36⟩ : ∃ y : Int32, y = a3 + 1 := ⟨_, rfl⟩
      have hw := hw x36 ex36
      refine lv_iinc (v := x36) (lv' := [(3, .int x36), (0, .ref (base + 816)), (1, .int a1), (2, .int a2)]) hx hb dX10_sendMade_36 hl (k := 3) rfl (by rw [ex36]; first | rfl | (rw [show Int32.ofInt (-1) = (-1 : Int32) from by decide])) (by decide) rfl (fun ls hl => ?_)
      refine lv_goto (tgt := 11) hx hb dX10_sendMade_39 (by decide) ?_
      exact ih a1 a2 x36 v11 _ _ _ hw (lv_sub hl [1, 2, 3, 0] rfl) hP hS
def w_X10_sendMade (p1 : Int32) (v : VV) (Q : VV → Prop) : Prop :=
  ∀ x1 : Int32, x1 = v 816 54 → ∀ x7 : Int32, x7 = x1 - x1 / 4096 * 4096 → ∃ fu : Nat, b_X10_sendMade_11 p1 Q  fu p1 x7 0 v
set_option maxHeartbeats 4000000 in
set_option maxRecDepth 100000 in
/-- TransportFourModel.sendMade -/
theorem t_X10_sendMade (l : Launch) (dC : Nat → ClassId) (dI : Nat → Nat → Nat) (base : Nat) (cy : Nat → ClassId) (p1 : Int32) (v : VV) (Q : VV → Prop) (hw : w_X10_sendMade p1 v Q) : CV l yX10_sendMade (.code yX10_sendMade cX10_sendMade 4 none :: TB) { frames := 0, cells := 0, slots := 0, locals := 0 } dC dI base cy [.ref (base + 816), .int p1] v Q := by
  refine Met.ofW (cc := cX10_sendMade) (maxL := 4) (ret := none) (by decide) rfl ?_
  intro p e s m args below meth c s₁ B hml hv
  obtain ⟨rfl, hP, hK⟩ := hv
  have hx := B.exec
  have hb := B.bytes
  have hr := B.returns
  have hts0 := atoms_spec (ws := (.code yX10_sendMade cX10_sendMade 4 none :: TB)) B.pre
  have hts : ∀ w ∈ TB, w.before ([.ref (base + 816), .int p1]).toArray s = true := fun w h => hts0 w (List.mem_cons_of_mem _ h)
  have hown : s.vm.findClass RX10 = some m.cls := findClass_of_methodNamed B.named
  have hlocks := B.notSynchronized
  have hS : va_S (fun q => base ≤ q) s.heap s.heap [] := va_S.rf
  have hl := lv_entry ([.ref (base + 816), .int p1]) (n := 4) (Nat.le_of_ble_eq_true rfl)
  rw [lg_entry_eq]
  generalize (lg_sl ([.ref (base + 816), .int p1]) ++ List.replicate (4 - (lg_sl ([.ref (base + 816), .int p1])).length) Slot.unset).toArray = ls at hl ⊢
  have hl : lv_has ls 4 [(0, .ref (base + 816)), (1, .int p1)] := hl
  have hret : ∀ (pc : Nat) (v : VV) (H : Heap) (locs : List Loc) (ls : Array Slot), decode cX10_sendMade pc = .ok (.return_, 1) → Q v → va_P (dC, dI) vwCl (Wd base cy rf v 874) H → va_S (fun q => base ≤ q) s.heap H locs → W p l e { frames := 0, cells := 0, slots := 0, locals := 0 } s m ([.ref (base + 816), .int p1]).toArray below meth c H locs 0 0 (MQ below (va_Qv Q (Hp dC dI base cy) (fun q => base ≤ q)) ([.ref (base + 816), .int p1]).toArray s 0 0 (fun q => base ≤ q)) (F0 m pc ls []) := fun pc v H locs ls hd hq hP hS => W.vret hx hb hr (fun t ht hW => ⟨⟨v, rfl, hq, by rw [ht]; exact hP, va_K.moved hW.alike hK⟩, hS.F ht⟩) hS.2.2 hd
  refine lv_aload_n hx hb dX10_sendMade_0 rfl (lv_at hl 0 rfl) ?_
  refine w_gI (C := RX10) (T := TX10) (N := 64) (ci := 10) hx hb hts in10 hown hK hP 54 th10.1 th10 rfl (by decide) (hts _ mf_X10_195) dX10_sendMade_1 ?_
  refine lv_topi (fun x1 ex1 => ?_)
  have hw := hw x1 ex1
  refine lv_sipush (v := 4096) hx hb dX10_sendMade_4 (by decide) ?_
  refine lv_irem hx hb dX10_sendMade_7 (by decide) ?_
  refine lv_topi (fun x7 ex7 => ?_)
  have hw := hw x7 ex7
  refine lv_istore_n (lv' := [(2, .int x7), (0, .ref (base + 816)), (1, .int p1)]) hx hb dX10_sendMade_8 rfl hl (by decide) rfl (fun ls hl => ?_)
  refine lv_iconst (v := 0) hx hb dX10_sendMade_9 (by decide) ?_
  refine lv_istore_n (lv' := [(3, .int 0), (2, .int x7), (0, .ref (base + 816)), (1, .int p1)]) hx hb dX10_sendMade_10 rfl hl (by decide) rfl (fun ls hl => ?_)
  obtain ⟨fu, hw⟩ := hw
  exact tb_X10_sendMade_11 hx hb hml hown hts hK p1 _ hret  fu p1 x7 0 v _ _ _ hw (lv_sub hl [2, 3, 1, 0] rfl) hP hS
def b_X10_sendCode_37 (p1 : Int32) (p2 : Int32) (p3 : Int32) (p4 : Int32) (p5 : Int32) (Q : VV → Prop) (a1 : Int32) (a2 : Int32) (a3 : Int32) (a4 : Int32) (a5 : Int32) (v : VV) : Prop :=
  w_X10_endHead  v (fun (v1 : VV) => w_X10_check  v1 (fun (v2 : VV) => w_X10_sendMade a1 v2 (fun (v3 : VV) => Q v3)))
set_option maxHeartbeats 4000000 in
set_option maxRecDepth 100000 in
theorem tb_X10_sendCode_37 {p : Program} {l : Launch} {e : Env} {s : State} {m : MethodId} {args : Array Value} {below : List Frame} {meth : Method} {c : Code} {QQ : State → Prop} {dC : Nat → ClassId} {dI : Nat → Nat → Nat} {base : Nat} {cy : Nat → ClassId} (hx : p.tables.exec = Jvm.exec) (hb : c.code = cX10_sendCode) (hml : c.maxLocals = 6) (hown : s.vm.findClass RX10 = some m.cls) (hts : ∀ w ∈ TB, w.before args s = true) (hK : va_K (dC, dI) vwCl (tyL cy) s) (p1 : Int32) (p2 : Int32) (p3 : Int32) (p4 : Int32) (p5 : Int32) (Q : VV → Prop) (hret : ∀ (pc : Nat) (v : VV) (H : Heap) (locs : List Loc) (ls : Array Slot), decode cX10_sendCode pc = .ok (.return_, 1) → Q v → va_P (dC, dI) vwCl (Wd base cy rf v 874) H → va_S (fun q => base ≤ q) s.heap H locs → W p l e { frames := 2, cells := 0, slots := 0, locals := 44 } s m args below meth c H locs 0 0 QQ (F0 m pc ls [])) (a1 : Int32) (a2 : Int32) (a3 : Int32) (a4 : Int32) (a5 : Int32) (v : VV) (H : Heap) (locs : List Loc) (ls : Array Slot) (hw : b_X10_sendCode_37 p1 p2 p3 p4 p5 Q  a1 a2 a3 a4 a5 v) : lv_has ls 6 [(0, .ref (base + 816)), (1, .int a1), (2, .int a2), (3, .int a3), (4, .int a4), (5, .int a5)] → va_P (dC, dI) vwCl (Wd base cy rf v 874) H → va_S (fun q => base ≤ q) s.heap H locs → W p l e { frames := 2, cells := 0, slots := 0, locals := 44 } s m args below meth c H locs 0 0 QQ (F0 m 37 ls []) := by
  intro hl hP hS
  refine lv_aload_n hx hb dX10_sendCode_37 rfl (lv_at hl 0 rfl) ?_
  refine k_V (As := []) (rest := []) ⟨hx, hb, hml, hown, hts⟩ (t_X10_endHead l dC dI base cy  v _ hw) (cwV 0 hts (gV ml_X10_205 mi_X10_endHead mx_X10_endHead mn_X10 mo_X10_endHead) rfl rfl rfl (by decide +kernel) ⟨by decide, by decide⟩) hK hP hS th10 (by decide) rfl rfl hl.1 rfl (Nat.le_of_ble_eq_true rfl) dX10_sendCode_38 ⟨Nat.zero_le _, Nat.zero_le _⟩ (fun v1 H locs hw hP hS => ?_)
  refine lv_aload_n hx hb dX10_sendCode_41 rfl (lv_at hl 0 rfl) ?_
  refine k_V (As := []) (rest := []) ⟨hx, hb, hml, hown, hts⟩ (t_X10_check l dC dI base cy  v1 _ hw) (cwV 0 hts (gV ml_X10_208 mi_X10_check mx_X10_check mn_X10 mo_X10_check) rfl rfl rfl (by decide +kernel) ⟨by decide, by decide⟩) hK hP hS th10 (by decide) rfl rfl hl.1 rfl (Nat.le_of_ble_eq_true rfl) dX10_sendCode_42 ⟨Nat.zero_le _, Nat.zero_le _⟩ (fun v2 H locs hw hP hS => ?_)
  refine lv_aload_n hx hb dX10_sendCode_45 rfl (lv_at hl 0 rfl) ?_
  refine lv_iload_n hx hb dX10_sendCode_46 rfl (lv_at hl 1 rfl) ?_
  refine k_V (As := [.int a1]) (rest := []) ⟨hx, hb, hml, hown, hts⟩ (t_X10_sendMade l dC dI base cy a1 v2 _ hw) (cwV 1 hts (gV ml_X10_211 mi_X10_sendMade mx_X10_sendMade mn_X10 mo_X10_sendMade) rfl rfl rfl (by decide +kernel) ⟨by decide, by decide⟩) hK hP hS th10 (by decide) rfl rfl hl.1 rfl (Nat.le_of_ble_eq_true rfl) dX10_sendCode_47 ⟨Nat.zero_le _, Nat.zero_le _⟩ (fun v3 H locs hw hP hS => ?_)
  exact hret _ _ _ _ _ dX10_sendCode_50 hw hP hS
def w_X10_sendCode (p1 : Int32) (p2 : Int32) (p3 : Int32) (p4 : Int32) (p5 : Int32) (v : VV) (Q : VV → Prop) : Prop :=
  w_X10_begin p2 p3 v (fun (v1 : VV) => ∀ x12 : Int32, x12 = p4 / 256 → w_X10_push x12 v1 (fun (v2 : VV) => ∀ x22 : Int32, x22 = p4 - p4 / 256 * 256 → w_X10_push x22 v2 (fun (v3 : VV) => (p5 < 0 → b_X10_sendCode_37 p1 p2 p3 p4 p5 Q  p1 p2 p3 p4 p5 v3) ∧ (¬ p5 < 0 → w_X10_push p5 v3 (fun (v4 : VV) => b_X10_sendCode_37 p1 p2 p3 p4 p5 Q  p1 p2 p3 p4 p5 v4)))))
set_option maxHeartbeats 4000000 in
set_option maxRecDepth 100000 in
/-- TransportFourModel.sendCode -/
theorem t_X10_sendCode (l : Launch) (dC : Nat → ClassId) (dI : Nat → Nat → Nat) (base : Nat) (cy : Nat → ClassId) (p1 : Int32) (p2 : Int32) (p3 : Int32) (p4 : Int32) (p5 : Int32) (v : VV) (Q : VV → Prop) (hw : w_X10_sendCode p1 p2 p3 p4 p5 v Q) : CV l yX10_sendCode (.code yX10_sendCode cX10_sendCode 6 none :: TB) { frames := 2, cells := 0, slots := 0, locals := 44 } dC dI base cy [.ref (base + 816), .int p1, .int p2, .int p3, .int p4, .int p5] v Q := by
  refine Met.ofW (cc := cX10_sendCode) (maxL := 6) (ret := none) (by decide) rfl ?_
  intro p e s m args below meth c s₁ B hml hv
  obtain ⟨rfl, hP, hK⟩ := hv
  have hx := B.exec
  have hb := B.bytes
  have hr := B.returns
  have hts0 := atoms_spec (ws := (.code yX10_sendCode cX10_sendCode 6 none :: TB)) B.pre
  have hts : ∀ w ∈ TB, w.before ([.ref (base + 816), .int p1, .int p2, .int p3, .int p4, .int p5]).toArray s = true := fun w h => hts0 w (List.mem_cons_of_mem _ h)
  have hown : s.vm.findClass RX10 = some m.cls := findClass_of_methodNamed B.named
  have hlocks := B.notSynchronized
  have hS : va_S (fun q => base ≤ q) s.heap s.heap [] := va_S.rf
  have hl := lv_entry ([.ref (base + 816), .int p1, .int p2, .int p3, .int p4, .int p5]) (n := 6) (Nat.le_of_ble_eq_true rfl)
  rw [lg_entry_eq]
  generalize (lg_sl ([.ref (base + 816), .int p1, .int p2, .int p3, .int p4, .int p5]) ++ List.replicate (6 - (lg_sl ([.ref (base + 816), .int p1, .int p2, .int p3, .int p4, .int p5])).length) Slot.unset).toArray = ls at hl ⊢
  have hl : lv_has ls 6 [(0, .ref (base + 816)), (1, .int p1), (2, .int p2), (3, .int p3), (4, .int p4), (5, .int p5)] := hl
  have hret : ∀ (pc : Nat) (v : VV) (H : Heap) (locs : List Loc) (ls : Array Slot), decode cX10_sendCode pc = .ok (.return_, 1) → Q v → va_P (dC, dI) vwCl (Wd base cy rf v 874) H → va_S (fun q => base ≤ q) s.heap H locs → W p l e { frames := 2, cells := 0, slots := 0, locals := 44 } s m ([.ref (base + 816), .int p1, .int p2, .int p3, .int p4, .int p5]).toArray below meth c H locs 0 0 (MQ below (va_Qv Q (Hp dC dI base cy) (fun q => base ≤ q)) ([.ref (base + 816), .int p1, .int p2, .int p3, .int p4, .int p5]).toArray s 0 0 (fun q => base ≤ q)) (F0 m pc ls []) := fun pc v H locs ls hd hq hP hS => W.vret hx hb hr (fun t ht hW => ⟨⟨v, rfl, hq, by rw [ht]; exact hP, va_K.moved hW.alike hK⟩, hS.F ht⟩) hS.2.2 hd
  refine lv_aload_n hx hb dX10_sendCode_0 rfl (lv_at hl 0 rfl) ?_
  refine lv_iload_n hx hb dX10_sendCode_1 rfl (lv_at hl 2 rfl) ?_
  refine lv_iload_n hx hb dX10_sendCode_2 rfl (lv_at hl 3 rfl) ?_
  refine k_V (As := [.int p2, .int p3]) (rest := []) ⟨hx, hb, hml, hown, hts⟩ (t_X10_begin l dC dI base cy p2 p3 v _ hw) (cwV 2 hts (gV ml_X10_201 mi_X10_begin mx_X10_begin mn_X10 mo_X10_begin) rfl rfl rfl (by decide +kernel) ⟨by decide, by decide⟩) hK hP hS th10 (by decide) rfl rfl hl.1 rfl (Nat.le_of_ble_eq_true rfl) dX10_sendCode_3 ⟨Nat.zero_le _, Nat.zero_le _⟩ (fun v1 H locs hw hP hS => ?_)
  refine lv_aload_n hx hb dX10_sendCode_6 rfl (lv_at hl 0 rfl) ?_
  refine lv_iload hx hb dX10_sendCode_7 (lv_at hl 4 rfl) ?_
  refine lv_sipush (v := 256) hx hb dX10_sendCode_9 (by decide) ?_
  refine lv_idiv hx hb dX10_sendCode_12 (by decide) ?_
  refine lv_topi (fun x12 ex12 => ?_)
  have hw := hw x12 ex12
  refine k_V (As := [.int x12]) (rest := []) ⟨hx, hb, hml, hown, hts⟩ (t_X10_push l dC dI base cy x12 v1 _ hw) (cwV 1 hts (gV ml_X10_187 mi_X10_push mx_X10_push mn_X10 mo_X10_push) rfl rfl rfl (by decide +kernel) ⟨by decide, by decide⟩) hK hP hS th10 (by decide) rfl rfl hl.1 rfl (Nat.le_of_ble_eq_true rfl) dX10_sendCode_13 ⟨Nat.zero_le _, Nat.zero_le _⟩ (fun v2 H locs hw hP hS => ?_)
  refine lv_aload_n hx hb dX10_sendCode_16 rfl (lv_at hl 0 rfl) ?_
  refine lv_iload hx hb dX10_sendCode_17 (lv_at hl 4 rfl) ?_
  refine lv_sipush (v := 256) hx hb dX10_sendCode_19 (by decide) ?_
  refine lv_irem hx hb dX10_sendCode_22 (by decide) ?_
  refine lv_topi (fun x22 ex22 => ?_)
  have hw := hw x22 ex22
  refine k_V (As := [.int x22]) (rest := []) ⟨hx, hb, hml, hown, hts⟩ (t_X10_push l dC dI base cy x22 v2 _ hw) (cwV 1 hts (gV ml_X10_187 mi_X10_push mx_X10_push mn_X10 mo_X10_push) rfl rfl rfl (by decide +kernel) ⟨by decide, by decide⟩) hK hP hS th10 (by decide) rfl rfl hl.1 rfl (Nat.le_of_ble_eq_true rfl) dX10_sendCode_23 ⟨Nat.zero_le _, Nat.zero_le _⟩ (fun v3 H locs hw hP hS => ?_)
  refine lv_iload hx hb dX10_sendCode_26 (lv_at hl 5 rfl) ?_
  refine lv_if_lt (tgt := 37) hx hb dX10_sendCode_28 (by decide) (fun c28 => ?_) (fun c28 => ?_)
  · have hw := hw.1 c28
    exact tb_X10_sendCode_37 hx hb hml hown hts hK p1 p2 p3 p4 p5 _ hret  p1 p2 p3 p4 p5 v3 _ _ _ hw (lv_sub hl [0, 1, 2, 3, 4, 5] rfl) hP hS
  · have hw := hw.2 c28
    refine lv_aload_n hx hb dX10_sendCode_31 rfl (lv_at hl 0 rfl) ?_
    refine lv_iload hx hb dX10_sendCode_32 (lv_at hl 5 rfl) ?_
    refine k_V (As := [.int p5]) (rest := []) ⟨hx, hb, hml, hown, hts⟩ (t_X10_push l dC dI base cy p5 v3 _ hw) (cwV 1 hts (gV ml_X10_187 mi_X10_push mx_X10_push mn_X10 mo_X10_push) rfl rfl rfl (by decide +kernel) ⟨by decide, by decide⟩) hK hP hS th10 (by decide) rfl rfl hl.1 rfl (Nat.le_of_ble_eq_true rfl) dX10_sendCode_34 ⟨Nat.zero_le _, Nat.zero_le _⟩ (fun v4 H locs hw hP hS => ?_)
    exact tb_X10_sendCode_37 hx hb hml hown hts hK p1 p2 p3 p4 p5 _ hret  p1 p2 p3 p4 p5 v4 _ _ _ hw (lv_sub hl [0, 1, 2, 3, 4, 5] rfl) hP hS
def w_X10_sendNumber (p1 : Int32) (p2 : Int32) (p3 : Int32) (v : VV) (Q : VV → Prop) : Prop :=
  vp_in p1 2 ∧ ∀ x7 : Int32, x7 = v 819 (Int32.toNatClampNeg p1) → w_X10_begin p2 x7 v (fun (v2 : VV) => w_X10_push p3 v2 (fun (v3 : VV) => w_X10_endHead  v3 (fun (v4 : VV) => w_X10_check  v4 (fun (v5 : VV) => w_X10_sendMade p1 v5 (fun (v6 : VV) => Q v6)))))
set_option maxHeartbeats 4000000 in
set_option maxRecDepth 100000 in
/-- TransportFourModel.sendNumber -/
theorem t_X10_sendNumber (l : Launch) (dC : Nat → ClassId) (dI : Nat → Nat → Nat) (base : Nat) (cy : Nat → ClassId) (p1 : Int32) (p2 : Int32) (p3 : Int32) (v : VV) (Q : VV → Prop) (hw : w_X10_sendNumber p1 p2 p3 v Q) : CV l yX10_sendNumber (.code yX10_sendNumber cX10_sendNumber 4 none :: TB) { frames := 2, cells := 0, slots := 0, locals := 44 } dC dI base cy [.ref (base + 816), .int p1, .int p2, .int p3] v Q := by
  refine Met.ofW (cc := cX10_sendNumber) (maxL := 4) (ret := none) (by decide) rfl ?_
  intro p e s m args below meth c s₁ B hml hv
  obtain ⟨rfl, hP, hK⟩ := hv
  have hx := B.exec
  have hb := B.bytes
  have hr := B.returns
  have hts0 := atoms_spec (ws := (.code yX10_sendNumber cX10_sendNumber 4 none :: TB)) B.pre
  have hts : ∀ w ∈ TB, w.before ([.ref (base + 816), .int p1, .int p2, .int p3]).toArray s = true := fun w h => hts0 w (List.mem_cons_of_mem _ h)
  have hown : s.vm.findClass RX10 = some m.cls := findClass_of_methodNamed B.named
  have hlocks := B.notSynchronized
  have hS : va_S (fun q => base ≤ q) s.heap s.heap [] := va_S.rf
  have hl := lv_entry ([.ref (base + 816), .int p1, .int p2, .int p3]) (n := 4) (Nat.le_of_ble_eq_true rfl)
  rw [lg_entry_eq]
  generalize (lg_sl ([.ref (base + 816), .int p1, .int p2, .int p3]) ++ List.replicate (4 - (lg_sl ([.ref (base + 816), .int p1, .int p2, .int p3])).length) Slot.unset).toArray = ls at hl ⊢
  have hl : lv_has ls 4 [(0, .ref (base + 816)), (1, .int p1), (2, .int p2), (3, .int p3)] := hl
  have hret : ∀ (pc : Nat) (v : VV) (H : Heap) (locs : List Loc) (ls : Array Slot), decode cX10_sendNumber pc = .ok (.return_, 1) → Q v → va_P (dC, dI) vwCl (Wd base cy rf v 874) H → va_S (fun q => base ≤ q) s.heap H locs → W p l e { frames := 2, cells := 0, slots := 0, locals := 44 } s m ([.ref (base + 816), .int p1, .int p2, .int p3]).toArray below meth c H locs 0 0 (MQ below (va_Qv Q (Hp dC dI base cy) (fun q => base ≤ q)) ([.ref (base + 816), .int p1, .int p2, .int p3]).toArray s 0 0 (fun q => base ≤ q)) (F0 m pc ls []) := fun pc v H locs ls hd hq hP hS => W.vret hx hb hr (fun t ht hW => ⟨⟨v, rfl, hq, by rw [ht]; exact hP, va_K.moved hW.alike hK⟩, hS.F ht⟩) hS.2.2 hd
  refine lv_aload_n hx hb dX10_sendNumber_0 rfl (lv_at hl 0 rfl) ?_
  refine lv_iload_n hx hb dX10_sendNumber_1 rfl (lv_at hl 2 rfl) ?_
  refine lv_aload_n hx hb dX10_sendNumber_2 rfl (lv_at hl 0 rfl) ?_
  refine w_gR (C := RX10) (T := TX10) (N := 64) (ci := 10) hx hb hts in10 hown hK hP 3 th10.1 th10 rfl (by decide) (ch10_3 th10).1 (hts _ mf_X10_16) dX10_sendNumber_3 ?_
  refine lv_iload_n hx hb dX10_sendNumber_6 rfl (lv_at hl 1 rfl) ?_
  obtain ⟨hi1, hw⟩ := hw
  refine w_ia (N := 2) hx hb hK hP (ch10_3 th10).2.1.1 (ch10_3 th10).2.1 (ch10_3 th10).2.2 hi1 dX10_sendNumber_7 ?_
  refine lv_topi (fun x7 ex7 => ?_)
  have hw := hw x7 ex7
  refine k_V (As := [.int p2, .int x7]) (rest := []) ⟨hx, hb, hml, hown, hts⟩ (t_X10_begin l dC dI base cy p2 x7 v _ hw) (cwV 2 hts (gV ml_X10_201 mi_X10_begin mx_X10_begin mn_X10 mo_X10_begin) rfl rfl rfl (by decide +kernel) ⟨by decide, by decide⟩) hK hP hS th10 (by decide) rfl rfl hl.1 rfl (Nat.le_of_ble_eq_true rfl) dX10_sendNumber_8 ⟨Nat.zero_le _, Nat.zero_le _⟩ (fun v2 H locs hw hP hS => ?_)
  refine lv_aload_n hx hb dX10_sendNumber_11 rfl (lv_at hl 0 rfl) ?_
  refine lv_iload_n hx hb dX10_sendNumber_12 rfl (lv_at hl 3 rfl) ?_
  refine k_V (As := [.int p3]) (rest := []) ⟨hx, hb, hml, hown, hts⟩ (t_X10_push l dC dI base cy p3 v2 _ hw) (cwV 1 hts (gV ml_X10_187 mi_X10_push mx_X10_push mn_X10 mo_X10_push) rfl rfl rfl (by decide +kernel) ⟨by decide, by decide⟩) hK hP hS th10 (by decide) rfl rfl hl.1 rfl (Nat.le_of_ble_eq_true rfl) dX10_sendNumber_13 ⟨Nat.zero_le _, Nat.zero_le _⟩ (fun v3 H locs hw hP hS => ?_)
  refine lv_aload_n hx hb dX10_sendNumber_16 rfl (lv_at hl 0 rfl) ?_
  refine k_V (As := []) (rest := []) ⟨hx, hb, hml, hown, hts⟩ (t_X10_endHead l dC dI base cy  v3 _ hw) (cwV 0 hts (gV ml_X10_205 mi_X10_endHead mx_X10_endHead mn_X10 mo_X10_endHead) rfl rfl rfl (by decide +kernel) ⟨by decide, by decide⟩) hK hP hS th10 (by decide) rfl rfl hl.1 rfl (Nat.le_of_ble_eq_true rfl) dX10_sendNumber_17 ⟨Nat.zero_le _, Nat.zero_le _⟩ (fun v4 H locs hw hP hS => ?_)
  refine lv_aload_n hx hb dX10_sendNumber_20 rfl (lv_at hl 0 rfl) ?_
  refine k_V (As := []) (rest := []) ⟨hx, hb, hml, hown, hts⟩ (t_X10_check l dC dI base cy  v4 _ hw) (cwV 0 hts (gV ml_X10_208 mi_X10_check mx_X10_check mn_X10 mo_X10_check) rfl rfl rfl (by decide +kernel) ⟨by decide, by decide⟩) hK hP hS th10 (by decide) rfl rfl hl.1 rfl (Nat.le_of_ble_eq_true rfl) dX10_sendNumber_21 ⟨Nat.zero_le _, Nat.zero_le _⟩ (fun v5 H locs hw hP hS => ?_)
  refine lv_aload_n hx hb dX10_sendNumber_24 rfl (lv_at hl 0 rfl) ?_
  refine lv_iload_n hx hb dX10_sendNumber_25 rfl (lv_at hl 1 rfl) ?_
  refine k_V (As := [.int p1]) (rest := []) ⟨hx, hb, hml, hown, hts⟩ (t_X10_sendMade l dC dI base cy p1 v5 _ hw) (cwV 1 hts (gV ml_X10_211 mi_X10_sendMade mx_X10_sendMade mn_X10 mo_X10_sendMade) rfl rfl rfl (by decide +kernel) ⟨by decide, by decide⟩) hK hP hS th10 (by decide) rfl rfl hl.1 rfl (Nat.le_of_ble_eq_true rfl) dX10_sendNumber_26 ⟨Nat.zero_le _, Nat.zero_le _⟩ (fun v6 H locs hw hP hS => ?_)
  exact hret _ _ _ _ _ dX10_sendNumber_29 hw hP hS
