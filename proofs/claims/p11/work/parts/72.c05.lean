def w_X9_take (p1 : Int32) (v : VV) (Q : Int32 → VV → Prop) : Prop :=
  w_X9_isNoEnd p1 v (fun (x1 : Int32) (v1 : VV) => (x1 = 0 → vp_in p1 2 ∧ ∀ t14 : Nat, t14 = 523 + 146 * (Int32.toNatClampNeg p1) → w_X0_takeMessage t14 v1 (fun (x15 : Int32) (v3 : VV) => Q x15 v3)) ∧ (¬ x1 = 0 → Q ((-1)) v1))
set_option maxHeartbeats 4000000 in
set_option maxRecDepth 100000 in
/-- TransportFour.take -/
theorem t_X9_take (l : Launch) (dC : Nat → ClassId) (dI : Nat → Nat → Nat) (base : Nat) (cy : Nat → ClassId) (p1 : Int32) (v : VV) (Q : Int32 → VV → Prop) (hw : w_X9_take p1 v Q) : CI l yX9_take (.code yX9_take cX9_take 2 (some .int) :: TB) { frames := 5, cells := 0, slots := 0, locals := 112 } dC dI base cy [.ref (base + 0), .int p1] v Q := by
  refine Met.ofW (cc := cX9_take) (maxL := 2) (ret := (some .int)) (by decide) rfl ?_
  intro p e s m args below meth c s₁ B hml hv
  obtain ⟨rfl, hP, hK⟩ := hv
  have hx := B.exec
  have hb := B.bytes
  have hr := B.returns
  have hts0 := atoms_spec (ws := (.code yX9_take cX9_take 2 (some .int) :: TB)) B.pre
  have hts : ∀ w ∈ TB, w.before ([.ref (base + 0), .int p1]).toArray s = true := fun w h => hts0 w (List.mem_cons_of_mem _ h)
  have hown : s.vm.findClass RX9 = some m.cls := findClass_of_methodNamed B.named
  have hlocks := B.notSynchronized
  have hS : va_S (fun q => base ≤ q) s.heap s.heap [] := va_S.rf
  have hl := lv_entry ([.ref (base + 0), .int p1]) (n := 2) (Nat.le_of_ble_eq_true rfl)
  rw [lg_entry_eq]
  generalize (lg_sl ([.ref (base + 0), .int p1]) ++ List.replicate (2 - (lg_sl ([.ref (base + 0), .int p1])).length) Slot.unset).toArray = ls at hl ⊢
  have hl : lv_has ls 2 [(0, .ref (base + 0)), (1, .int p1)] := hl
  have hret : ∀ (pc : Nat) (x : Int32) (v : VV) (H : Heap) (locs : List Loc) (ls : Array Slot), decode cX9_take pc = .ok (.ireturn, 1) → Q x v → va_P (dC, dI) vwCl (Wd base cy rf v 874) H → va_S (fun q => base ≤ q) s.heap H locs → W p l e { frames := 5, cells := 0, slots := 0, locals := 112 } s m ([.ref (base + 0), .int p1]).toArray below meth c H locs 0 0 (MQ below (va_Qi Q (Hp dC dI base cy) (fun q => base ≤ q)) ([.ref (base + 0), .int p1]).toArray s 0 0 (fun q => base ≤ q)) (F0 m pc ls [.int x]) := fun pc x v H locs ls hd hq hP hS => W.iret (v := x) hx hb hr (fun t ht hW => ⟨⟨x, v, rfl, hq, by rw [ht]; exact hP, va_K.moved hW.alike hK⟩, hS.F ht⟩) hS.2.2 hd
  refine lv_iload_n hx hb dX9_take_0 rfl (lv_at hl 1 rfl) ?_
  refine kS_I (As := [.int p1]) (rest := []) ⟨hx, hb, hml, hown, hts⟩ (t_X9_isNoEnd l dC dI base cy p1 v _ hw) (cwS 1 hts (gS ml_X9_29 mt_X9_isNoEnd mn_X9 mo_X9_isNoEnd) rfl rfl rfl (by decide +kernel) ⟨by decide, by decide⟩) hK hP hS rfl hl.1 rfl (Nat.le_of_ble_eq_true rfl) dX9_take_1 ⟨Nat.zero_le _, Nat.zero_le _⟩ (fun x1 v1 H locs hw hP hS => ?_)
  refine lv_if_eq (tgt := 9) hx hb dX9_take_4 (by decide) (fun c4 => ?_) (fun c4 => ?_)
  · have hw := hw.1 c4
    refine lv_aload_n hx hb dX9_take_9 rfl (lv_at hl 0 rfl) ?_
    refine w_gR (C := RX9) (T := TX9) (N := 4) (ci := 9) hx hb hts in9 hown hK hP 1 th9.1 th9 rfl (by decide) (ch9_1 th9).1 (hts _ mf_X9_21) dX9_take_10 ?_
    refine lv_iload_n hx hb dX9_take_13 rfl (lv_at hl 1 rfl) ?_
    obtain ⟨hi2, hw⟩ := hw
    obtain ⟨t14, et14⟩ : ∃ y : Nat, y = 523 + 146 * (Int32.toNatClampNeg p1) := ⟨_, rfl⟩
    have hw := hw t14 et14
    have qt14 := arE (i := (Int32.toNatClampNeg p1)) (in_lt hi2)
    rw [← et14] at qt14
    refine w_aa (q0 := 3) hx hb hK hP (ch9_1 th9).2.1.1 (ch9_1 th9).2.1 (by decide) rfl (ch9_1 th9).2.2 hi2 qt14.1 dX9_take_14 ?_
    refine k_I (As := []) (rest := []) ⟨hx, hb, hml, hown, hts⟩ (t_X0_takeMessage l dC dI base cy t14 qt14.2 v1 _ hw) (cwV 0 hts (gV ml_X9_52 mi_X0_takeMessage mx_X0_takeMessage mn_X0 mo_X0_takeMessage) rfl rfl rfl (by decide +kernel) ⟨by decide, by decide⟩) hK hP hS qt14.2 (by decide) rfl rfl hl.1 rfl (Nat.le_of_ble_eq_true rfl) dX9_take_15 ⟨Nat.zero_le _, Nat.zero_le _⟩ (fun x15 v3 H locs hw hP hS => ?_)
    exact hret _ _ _ _ _ _ dX9_take_18 hw hP hS
  · have hw := hw.2 c4
    refine lv_iconst (v := -1) hx hb dX9_take_7 (by decide) ?_
    exact hret _ _ _ _ _ _ dX9_take_8 hw hP hS
def b_X1_takenByte_12 (o : Nat) (p1 : Int32) (Q : Int32 → VV → Prop) (a1 : Int32) (v : VV) : Prop :=
  Q ((-1)) v
set_option maxHeartbeats 4000000 in
set_option maxRecDepth 100000 in
theorem tb_X1_takenByte_12 {p : Program} {l : Launch} {e : Env} {s : State} {m : MethodId} {args : Array Value} {below : List Frame} {meth : Method} {c : Code} {QQ : State → Prop} {dC : Nat → ClassId} {dI : Nat → Nat → Nat} {base : Nat} {cy : Nat → ClassId} (hx : p.tables.exec = Jvm.exec) (hb : c.code = cX1_takenByte) (hml : c.maxLocals = 2) (hown : s.vm.findClass RX1 = some m.cls) (hts : ∀ w ∈ TB, w.before args s = true) (hK : va_K (dC, dI) vwCl (tyL cy) s) (o : Nat) (ho : isO 1 o) (p1 : Int32) (Q : Int32 → VV → Prop) (hret : ∀ (pc : Nat) (x : Int32) (v : VV) (H : Heap) (locs : List Loc) (ls : Array Slot), decode cX1_takenByte pc = .ok (.ireturn, 1) → Q x v → va_P (dC, dI) vwCl (Wd base cy rf v 874) H → va_S (fun q => base ≤ q) s.heap H locs → W p l e { frames := 0, cells := 0, slots := 0, locals := 0 } s m args below meth c H locs 0 0 QQ (F0 m pc ls [.int x])) (a1 : Int32) (v : VV) (H : Heap) (locs : List Loc) (ls : Array Slot) (hw : b_X1_takenByte_12 o p1 Q  a1 v) : lv_has ls 2 [(0, .ref (base + o)), (1, .int a1)] → va_P (dC, dI) vwCl (Wd base cy rf v 874) H → va_S (fun q => base ≤ q) s.heap H locs → W p l e { frames := 0, cells := 0, slots := 0, locals := 0 } s m args below meth c H locs 0 0 QQ (F0 m 12 ls []) := by
  intro hl hP hS
  refine lv_iconst (v := -1) hx hb dX1_takenByte_12 (by decide) ?_
  refine lv_goto (tgt := 22) hx hb dX1_takenByte_13 (by decide) ?_
  exact hret _ _ _ _ _ _ dX1_takenByte_22 hw hP hS
def w_X1_takenByte (o : Nat) (p1 : Int32) (v : VV) (Q : Int32 → VV → Prop) : Prop :=
  (p1 < 0 → b_X1_takenByte_12 o p1 Q  p1 v) ∧ (¬ p1 < 0 → ∀ x6 : Int32, x6 = v o 14 → (p1 < x6 → vp_in p1 256 ∧ ∀ x21 : Int32, x21 = v (o + 16) (Int32.toNatClampNeg p1) → Q x21 v) ∧ (¬ p1 < x6 → b_X1_takenByte_12 o p1 Q  p1 v))
set_option maxHeartbeats 4000000 in
set_option maxRecDepth 100000 in
/-- TransportFour$Inbox.takenByte -/
theorem t_X1_takenByte (l : Launch) (dC : Nat → ClassId) (dI : Nat → Nat → Nat) (base : Nat) (cy : Nat → ClassId) (o : Nat) (ho : isO 1 o) (p1 : Int32) (v : VV) (Q : Int32 → VV → Prop) (hw : w_X1_takenByte o p1 v Q) : CI l yX1_takenByte (.code yX1_takenByte cX1_takenByte 2 (some .int) :: TB) { frames := 0, cells := 0, slots := 0, locals := 0 } dC dI base cy [.ref (base + o), .int p1] v Q := by
  refine Met.ofW (cc := cX1_takenByte) (maxL := 2) (ret := (some .int)) (by decide) rfl ?_
  intro p e s m args below meth c s₁ B hml hv
  obtain ⟨rfl, hP, hK⟩ := hv
  have hx := B.exec
  have hb := B.bytes
  have hr := B.returns
  have hts0 := atoms_spec (ws := (.code yX1_takenByte cX1_takenByte 2 (some .int) :: TB)) B.pre
  have hts : ∀ w ∈ TB, w.before ([.ref (base + o), .int p1]).toArray s = true := fun w h => hts0 w (List.mem_cons_of_mem _ h)
  have hown : s.vm.findClass RX1 = some m.cls := findClass_of_methodNamed B.named
  have hlocks := B.notSynchronized
  have hS : va_S (fun q => base ≤ q) s.heap s.heap [] := va_S.rf
  have hl := lv_entry ([.ref (base + o), .int p1]) (n := 2) (Nat.le_of_ble_eq_true rfl)
  rw [lg_entry_eq]
  generalize (lg_sl ([.ref (base + o), .int p1]) ++ List.replicate (2 - (lg_sl ([.ref (base + o), .int p1])).length) Slot.unset).toArray = ls at hl ⊢
  have hl : lv_has ls 2 [(0, .ref (base + o)), (1, .int p1)] := hl
  have hret : ∀ (pc : Nat) (x : Int32) (v : VV) (H : Heap) (locs : List Loc) (ls : Array Slot), decode cX1_takenByte pc = .ok (.ireturn, 1) → Q x v → va_P (dC, dI) vwCl (Wd base cy rf v 874) H → va_S (fun q => base ≤ q) s.heap H locs → W p l e { frames := 0, cells := 0, slots := 0, locals := 0 } s m ([.ref (base + o), .int p1]).toArray below meth c H locs 0 0 (MQ below (va_Qi Q (Hp dC dI base cy) (fun q => base ≤ q)) ([.ref (base + o), .int p1]).toArray s 0 0 (fun q => base ≤ q)) (F0 m pc ls [.int x]) := fun pc x v H locs ls hd hq hP hS => W.iret (v := x) hx hb hr (fun t ht hW => ⟨⟨x, v, rfl, hq, by rw [ht]; exact hP, va_K.moved hW.alike hK⟩, hS.F ht⟩) hS.2.2 hd
  refine lv_iload_n hx hb dX1_takenByte_0 rfl (lv_at hl 1 rfl) ?_
  refine lv_if_lt (tgt := 12) hx hb dX1_takenByte_1 (by decide) (fun c1 => ?_) (fun c1 => ?_)
  · have hw := hw.1 c1
    exact tb_X1_takenByte_12 hx hb hml hown hts hK o ho p1 _ hret  p1 v _ _ _ hw (lv_sub hl [0, 1] rfl) hP hS
  · have hw := hw.2 c1
    refine lv_iload_n hx hb dX1_takenByte_4 rfl (lv_at hl 1 rfl) ?_
    refine lv_aload_n hx hb dX1_takenByte_5 rfl (lv_at hl 0 rfl) ?_
    refine w_gI (C := RX1) (T := TX1) (N := 15) (ci := 1) hx hb hts in1 hown hK hP 14 ho.1 ho rfl (by decide) (hts _ mf_X1_96) dX1_takenByte_6 ?_
    refine lv_topi (fun x6 ex6 => ?_)
    have hw := hw x6 ex6
    refine lv_icmp_lt (tgt := 16) hx hb dX1_takenByte_9 (by decide) (fun c9 => ?_) (fun c9 => ?_)
    · have hw := hw.1 c9
      refine lv_aload_n hx hb dX1_takenByte_16 rfl (lv_at hl 0 rfl) ?_
      refine w_gR (C := RX1) (T := TX1) (N := 15) (ci := 1) hx hb hts in1 hown hK hP 7 ho.1 ho rfl (by decide) (ch1_7 ho).1 (hts _ mf_X1_36) dX1_takenByte_17 ?_
      refine lv_iload_n hx hb dX1_takenByte_20 rfl (lv_at hl 1 rfl) ?_
      obtain ⟨hi1, hw⟩ := hw
      refine w_ia (N := 256) hx hb hK hP (ch1_7 ho).2.1.1 (ch1_7 ho).2.1 (ch1_7 ho).2.2 hi1 dX1_takenByte_21 ?_
      refine lv_topi (fun x21 ex21 => ?_)
      have hw := hw x21 ex21
      exact hret _ _ _ _ _ _ dX1_takenByte_22 hw hP hS
    · have hw := hw.2 c9
      exact tb_X1_takenByte_12 hx hb hml hown hts hK o ho p1 _ hret  p1 v _ _ _ hw (lv_sub hl [0, 1] rfl) hP hS
def w_X9_read (p1 : Int32) (p2 : Int32) (v : VV) (Q : Int32 → VV → Prop) : Prop :=
  w_X9_isNoEnd p1 v (fun (x1 : Int32) (v1 : VV) => (x1 = 0 → vp_in p1 2 ∧ ∀ t14 : Nat, t14 = 523 + 146 * (Int32.toNatClampNeg p1) → w_X1_takenByte (t14 + 123) p2 v1 (fun (x19 : Int32) (v3 : VV) => Q x19 v3)) ∧ (¬ x1 = 0 → Q ((-1)) v1))
set_option maxHeartbeats 4000000 in
set_option maxRecDepth 100000 in
/-- TransportFour.read -/
theorem t_X9_read (l : Launch) (dC : Nat → ClassId) (dI : Nat → Nat → Nat) (base : Nat) (cy : Nat → ClassId) (p1 : Int32) (p2 : Int32) (v : VV) (Q : Int32 → VV → Prop) (hw : w_X9_read p1 p2 v Q) : CI l yX9_read (.code yX9_read cX9_read 3 (some .int) :: TB) { frames := 1, cells := 0, slots := 0, locals := 21 } dC dI base cy [.ref (base + 0), .int p1, .int p2] v Q := by
  refine Met.ofW (cc := cX9_read) (maxL := 3) (ret := (some .int)) (by decide) rfl ?_
  intro p e s m args below meth c s₁ B hml hv
  obtain ⟨rfl, hP, hK⟩ := hv
  have hx := B.exec
  have hb := B.bytes
  have hr := B.returns
  have hts0 := atoms_spec (ws := (.code yX9_read cX9_read 3 (some .int) :: TB)) B.pre
  have hts : ∀ w ∈ TB, w.before ([.ref (base + 0), .int p1, .int p2]).toArray s = true := fun w h => hts0 w (List.mem_cons_of_mem _ h)
  have hown : s.vm.findClass RX9 = some m.cls := findClass_of_methodNamed B.named
  have hlocks := B.notSynchronized
  have hS : va_S (fun q => base ≤ q) s.heap s.heap [] := va_S.rf
  have hl := lv_entry ([.ref (base + 0), .int p1, .int p2]) (n := 3) (Nat.le_of_ble_eq_true rfl)
  rw [lg_entry_eq]
  generalize (lg_sl ([.ref (base + 0), .int p1, .int p2]) ++ List.replicate (3 - (lg_sl ([.ref (base + 0), .int p1, .int p2])).length) Slot.unset).toArray = ls at hl ⊢
  have hl : lv_has ls 3 [(0, .ref (base + 0)), (1, .int p1), (2, .int p2)] := hl
  have hret : ∀ (pc : Nat) (x : Int32) (v : VV) (H : Heap) (locs : List Loc) (ls : Array Slot), decode cX9_read pc = .ok (.ireturn, 1) → Q x v → va_P (dC, dI) vwCl (Wd base cy rf v 874) H → va_S (fun q => base ≤ q) s.heap H locs → W p l e { frames := 1, cells := 0, slots := 0, locals := 21 } s m ([.ref (base + 0), .int p1, .int p2]).toArray below meth c H locs 0 0 (MQ below (va_Qi Q (Hp dC dI base cy) (fun q => base ≤ q)) ([.ref (base + 0), .int p1, .int p2]).toArray s 0 0 (fun q => base ≤ q)) (F0 m pc ls [.int x]) := fun pc x v H locs ls hd hq hP hS => W.iret (v := x) hx hb hr (fun t ht hW => ⟨⟨x, v, rfl, hq, by rw [ht]; exact hP, va_K.moved hW.alike hK⟩, hS.F ht⟩) hS.2.2 hd
  refine lv_iload_n hx hb dX9_read_0 rfl (lv_at hl 1 rfl) ?_
  refine kS_I (As := [.int p1]) (rest := []) ⟨hx, hb, hml, hown, hts⟩ (t_X9_isNoEnd l dC dI base cy p1 v _ hw) (cwS 1 hts (gS ml_X9_29 mt_X9_isNoEnd mn_X9 mo_X9_isNoEnd) rfl rfl rfl (by decide +kernel) ⟨by decide, by decide⟩) hK hP hS rfl hl.1 rfl (Nat.le_of_ble_eq_true rfl) dX9_read_1 ⟨Nat.zero_le _, Nat.zero_le _⟩ (fun x1 v1 H locs hw hP hS => ?_)
  refine lv_if_eq (tgt := 9) hx hb dX9_read_4 (by decide) (fun c4 => ?_) (fun c4 => ?_)
  · have hw := hw.1 c4
    refine lv_aload_n hx hb dX9_read_9 rfl (lv_at hl 0 rfl) ?_
    refine w_gR (C := RX9) (T := TX9) (N := 4) (ci := 9) hx hb hts in9 hown hK hP 1 th9.1 th9 rfl (by decide) (ch9_1 th9).1 (hts _ mf_X9_21) dX9_read_10 ?_
    refine lv_iload_n hx hb dX9_read_13 rfl (lv_at hl 1 rfl) ?_
    obtain ⟨hi2, hw⟩ := hw
    obtain ⟨t14, et14⟩ : ∃ y : Nat, y = 523 + 146 * (Int32.toNatClampNeg p1) := ⟨_, rfl⟩
    have hw := hw t14 et14
    have qt14 := arE (i := (Int32.toNatClampNeg p1)) (in_lt hi2)
    rw [← et14] at qt14
    refine w_aa (q0 := 3) hx hb hK hP (ch9_1 th9).2.1.1 (ch9_1 th9).2.1 (by decide) rfl (ch9_1 th9).2.2 hi2 qt14.1 dX9_read_14 ?_
    refine w_gR (C := RX0) (T := TX0) (N := 15) (ci := 0) hx hb hts in0 hown hK hP 3 qt14.2.1 qt14.2 rfl (by decide) (ch0_3 qt14.2).1 (hts _ mf_X9_55) dX9_read_15 ?_
    refine lv_iload_n hx hb dX9_read_18 rfl (lv_at hl 2 rfl) ?_
    refine k_I (As := [.int p2]) (rest := []) ⟨hx, hb, hml, hown, hts⟩ (t_X1_takenByte l dC dI base cy (t14 + 123) (ch0_3 qt14.2).2 p2 v1 _ hw) (cwV 1 hts (gV ml_X9_59 mi_X1_takenByte mx_X1_takenByte mn_X1 mo_X1_takenByte) rfl rfl rfl (by decide +kernel) ⟨by decide, by decide⟩) hK hP hS (ch0_3 qt14.2).2 (by decide) rfl rfl hl.1 rfl (Nat.le_of_ble_eq_true rfl) dX9_read_19 ⟨Nat.zero_le _, Nat.zero_le _⟩ (fun x19 v3 H locs hw hP hS => ?_)
    exact hret _ _ _ _ _ _ dX9_read_22 hw hP hS
  · have hw := hw.2 c4
    refine lv_iconst (v := -1) hx hb dX9_read_7 (by decide) ?_
    exact hret _ _ _ _ _ _ dX9_read_8 hw hP hS
def w_X6_takeByte (o : Nat) (v : VV) (Q : Int32 → VV → Prop) : Prop :=
  ∀ x1 : Int32, x1 = v o 2 → (¬ x1 = 0 → ∀ x15 : Int32, x15 = v o 1 → vp_in x15 512 ∧ ∀ x18 : Int32, x18 = v (o + 1) (Int32.toNatClampNeg x15) → ∀ x22 : Int32, x22 = v o 1 → ∀ x26 : Int32, x26 = x22 + 1 → ∀ x30 : Int32, x30 = x26 - x26 / 512 * 512 → ∀ v2 : VV, v2 = up2 v o 1 x30 → ∀ x36 : Int32, x36 = v2 o 2 → ∀ x40 : Int32, x40 = x36 - 1 → ∀ v3 : VV, v3 = up2 v2 o 2 x40 → Q x18 v3) ∧ (x1 = 0 → Q ((-2)) v)
set_option maxHeartbeats 4000000 in
set_option maxRecDepth 100000 in
/-- TransportFour$UrgentIn.takeByte -/
theorem t_X6_takeByte (l : Launch) (dC : Nat → ClassId) (dI : Nat → Nat → Nat) (base : Nat) (cy : Nat → ClassId) (o : Nat) (ho : isO 6 o) (v : VV) (Q : Int32 → VV → Prop) (hw : w_X6_takeByte o v Q) : CI l yX6_takeByte (.code yX6_takeByte cX6_takeByte 2 (some .int) :: TB) { frames := 0, cells := 0, slots := 0, locals := 0 } dC dI base cy [.ref (base + o)] v Q := by
  refine Met.ofW (cc := cX6_takeByte) (maxL := 2) (ret := (some .int)) (by decide) rfl ?_
  intro p e s m args below meth c s₁ B hml hv
  obtain ⟨rfl, hP, hK⟩ := hv
  have hx := B.exec
  have hb := B.bytes
  have hr := B.returns
  have hts0 := atoms_spec (ws := (.code yX6_takeByte cX6_takeByte 2 (some .int) :: TB)) B.pre
  have hts : ∀ w ∈ TB, w.before ([.ref (base + o)]).toArray s = true := fun w h => hts0 w (List.mem_cons_of_mem _ h)
  have hown : s.vm.findClass RX6 = some m.cls := findClass_of_methodNamed B.named
  have hlocks := B.notSynchronized
  have hS : va_S (fun q => base ≤ q) s.heap s.heap [] := va_S.rf
  have hl := lv_entry ([.ref (base + o)]) (n := 2) (Nat.le_of_ble_eq_true rfl)
  rw [lg_entry_eq]
  generalize (lg_sl ([.ref (base + o)]) ++ List.replicate (2 - (lg_sl ([.ref (base + o)])).length) Slot.unset).toArray = ls at hl ⊢
  have hl : lv_has ls 2 [(0, .ref (base + o))] := hl
  have hret : ∀ (pc : Nat) (x : Int32) (v : VV) (H : Heap) (locs : List Loc) (ls : Array Slot), decode cX6_takeByte pc = .ok (.ireturn, 1) → Q x v → va_P (dC, dI) vwCl (Wd base cy rf v 874) H → va_S (fun q => base ≤ q) s.heap H locs → W p l e { frames := 0, cells := 0, slots := 0, locals := 0 } s m ([.ref (base + o)]).toArray below meth c H locs 0 0 (MQ below (va_Qi Q (Hp dC dI base cy) (fun q => base ≤ q)) ([.ref (base + o)]).toArray s 0 0 (fun q => base ≤ q)) (F0 m pc ls [.int x]) := fun pc x v H locs ls hd hq hP hS => W.iret (v := x) hx hb hr (fun t ht hW => ⟨⟨x, v, rfl, hq, by rw [ht]; exact hP, va_K.moved hW.alike hK⟩, hS.F ht⟩) hS.2.2 hd
  refine lv_aload_n hx hb dX6_takeByte_0 rfl (lv_at hl 0 rfl) ?_
  refine w_gI (C := RX6) (T := TX6) (N := 4) (ci := 6) hx hb hts in6 hown hK hP 2 ho.1 ho rfl (by decide) (hts _ mf_X6_15) dX6_takeByte_1 ?_
  refine lv_topi (fun x1 ex1 => ?_)
  have hw := hw x1 ex1
  refine lv_if_ne (tgt := 10) hx hb dX6_takeByte_4 (by decide) (fun c4 => ?_) (fun c4 => ?_)
  · have hw := hw.1 c4
    refine lv_aload_n hx hb dX6_takeByte_10 rfl (lv_at hl 0 rfl) ?_
    refine w_gR (C := RX6) (T := TX6) (N := 4) (ci := 6) hx hb hts in6 hown hK hP 0 ho.1 ho rfl (by decide) (ch6_0 ho).1 (hts _ mf_X6_9) dX6_takeByte_11 ?_
    refine lv_aload_n hx hb dX6_takeByte_14 rfl (lv_at hl 0 rfl) ?_
    refine w_gI (C := RX6) (T := TX6) (N := 4) (ci := 6) hx hb hts in6 hown hK hP 1 ho.1 ho rfl (by decide) (hts _ mf_X6_22) dX6_takeByte_15 ?_
    refine lv_topi (fun x15 ex15 => ?_)
    have hw := hw x15 ex15
    obtain ⟨hi1, hw⟩ := hw
    refine w_ia (N := 512) hx hb hK hP (ch6_0 ho).2.1.1 (ch6_0 ho).2.1 (ch6_0 ho).2.2 hi1 dX6_takeByte_18 ?_
    refine lv_topi (fun x18 ex18 => ?_)
    have hw := hw x18 ex18
    refine lv_istore_n (lv' := [(1, .int x18), (0, .ref (base + o))]) hx hb dX6_takeByte_19 rfl hl (by decide) rfl (fun ls hl => ?_)
    refine lv_aload_n hx hb dX6_takeByte_20 rfl (lv_at hl 1 rfl) ?_
    refine lv_aload_n hx hb dX6_takeByte_21 rfl (lv_at hl 1 rfl) ?_
    refine w_gI (C := RX6) (T := TX6) (N := 4) (ci := 6) hx hb hts in6 hown hK hP 1 ho.1 ho rfl (by decide) (hts _ mf_X6_22) dX6_takeByte_22 ?_
    refine lv_topi (fun x22 ex22 => ?_)
    have hw := hw x22 ex22
    refine lv_iconst (v := 1) hx hb dX6_takeByte_25 (by decide) ?_
    refine lv_iadd hx hb dX6_takeByte_26 ?_
    refine lv_topi (fun x26 ex26 => ?_)
    have hw := hw x26 ex26
    refine lv_sipush (v := 512) hx hb dX6_takeByte_27 (by decide) ?_
    refine lv_irem hx hb dX6_takeByte_30 (by decide) ?_
    refine lv_topi (fun x30 ex30 => ?_)
    have hw := hw x30 ex30
    refine w_pI (C := RX6) (T := TX6) (N := 4) (ci := 6) hx hb hts in6 tyX6 tyX6_ok nmX6 hown hK hP hS 1 ho.1 ho rfl (by decide) (hts _ mf_X6_22) rfl (ty := .int) (by decide +kernel) rfl rfl dX6_takeByte_31 (fun v2 H locs hv2 hP hz hS => ?_)
    have hw := hw v2 hv2
    refine lv_aload_n hx hb dX6_takeByte_34 rfl (lv_at hl 1 rfl) ?_
    refine lv_dup hx hb dX6_takeByte_35 rfl ?_
    refine w_gI (C := RX6) (T := TX6) (N := 4) (ci := 6) hx hb hts in6 hown hK hP 2 ho.1 ho rfl (by decide) (hts _ mf_X6_15) dX6_takeByte_36 ?_
    refine lv_topi (fun x36 ex36 => ?_)
    have hw := hw x36 ex36
    refine lv_iconst (v := 1) hx hb dX6_takeByte_39 (by decide) ?_
    refine lv_isub hx hb dX6_takeByte_40 ?_
    refine lv_topi (fun x40 ex40 => ?_)
    have hw := hw x40 ex40
    refine w_pI (C := RX6) (T := TX6) (N := 4) (ci := 6) hx hb hts in6 tyX6 tyX6_ok nmX6 hown hK hP hS 2 ho.1 ho rfl (by decide) (hts _ mf_X6_15) rfl (ty := .int) (by decide +kernel) rfl rfl dX6_takeByte_41 (fun v3 H locs hv3 hP hz hS => ?_)
    have hw := hw v3 hv3
    refine lv_iload_n hx hb dX6_takeByte_44 rfl (lv_at hl 0 rfl) ?_
    exact hret _ _ _ _ _ _ dX6_takeByte_45 hw hP hS
  · have hw := hw.2 c4
    refine lv_bipush (v := -2) hx hb dX6_takeByte_7 (by decide) ?_
    exact hret _ _ _ _ _ _ dX6_takeByte_9 hw hP hS
def w_X9_urgent (p1 : Int32) (v : VV) (Q : Int32 → VV → Prop) : Prop :=
  w_X9_isNoEnd p1 v (fun (x1 : Int32) (v1 : VV) => (x1 = 0 → vp_in p1 2 ∧ ∀ t14 : Nat, t14 = 523 + 146 * (Int32.toNatClampNeg p1) → w_X6_takeByte (t14 + 143) v1 (fun (x18 : Int32) (v3 : VV) => Q x18 v3)) ∧ (¬ x1 = 0 → Q ((-1)) v1))
set_option maxHeartbeats 4000000 in
set_option maxRecDepth 100000 in
/-- TransportFour.urgent -/
theorem t_X9_urgent (l : Launch) (dC : Nat → ClassId) (dI : Nat → Nat → Nat) (base : Nat) (cy : Nat → ClassId) (p1 : Int32) (v : VV) (Q : Int32 → VV → Prop) (hw : w_X9_urgent p1 v Q) : CI l yX9_urgent (.code yX9_urgent cX9_urgent 2 (some .int) :: TB) { frames := 1, cells := 0, slots := 0, locals := 21 } dC dI base cy [.ref (base + 0), .int p1] v Q := by
  refine Met.ofW (cc := cX9_urgent) (maxL := 2) (ret := (some .int)) (by decide) rfl ?_
  intro p e s m args below meth c s₁ B hml hv
  obtain ⟨rfl, hP, hK⟩ := hv
  have hx := B.exec
  have hb := B.bytes
  have hr := B.returns
  have hts0 := atoms_spec (ws := (.code yX9_urgent cX9_urgent 2 (some .int) :: TB)) B.pre
  have hts : ∀ w ∈ TB, w.before ([.ref (base + 0), .int p1]).toArray s = true := fun w h => hts0 w (List.mem_cons_of_mem _ h)
  have hown : s.vm.findClass RX9 = some m.cls := findClass_of_methodNamed B.named
  have hlocks := B.notSynchronized
  have hS : va_S (fun q => base ≤ q) s.heap s.heap [] := va_S.rf
  have hl := lv_entry ([.ref (base + 0), .int p1]) (n := 2) (Nat.le_of_ble_eq_true rfl)
  rw [lg_entry_eq]
  generalize (lg_sl ([.ref (base + 0), .int p1]) ++ List.replicate (2 - (lg_sl ([.ref (base + 0), .int p1])).length) Slot.unset).toArray = ls at hl ⊢
  have hl : lv_has ls 2 [(0, .ref (base + 0)), (1, .int p1)] := hl
  have hret : ∀ (pc : Nat) (x : Int32) (v : VV) (H : Heap) (locs : List Loc) (ls : Array Slot), decode cX9_urgent pc = .ok (.ireturn, 1) → Q x v → va_P (dC, dI) vwCl (Wd base cy rf v 874) H → va_S (fun q => base ≤ q) s.heap H locs → W p l e { frames := 1, cells := 0, slots := 0, locals := 21 } s m ([.ref (base + 0), .int p1]).toArray below meth c H locs 0 0 (MQ below (va_Qi Q (Hp dC dI base cy) (fun q => base ≤ q)) ([.ref (base + 0), .int p1]).toArray s 0 0 (fun q => base ≤ q)) (F0 m pc ls [.int x]) := fun pc x v H locs ls hd hq hP hS => W.iret (v := x) hx hb hr (fun t ht hW => ⟨⟨x, v, rfl, hq, by rw [ht]; exact hP, va_K.moved hW.alike hK⟩, hS.F ht⟩) hS.2.2 hd
  refine lv_iload_n hx hb dX9_urgent_0 rfl (lv_at hl 1 rfl) ?_
  refine kS_I (As := [.int p1]) (rest := []) ⟨hx, hb, hml, hown, hts⟩ (t_X9_isNoEnd l dC dI base cy p1 v _ hw) (cwS 1 hts (gS ml_X9_29 mt_X9_isNoEnd mn_X9 mo_X9_isNoEnd) rfl rfl rfl (by decide +kernel) ⟨by decide, by decide⟩) hK hP hS rfl hl.1 rfl (Nat.le_of_ble_eq_true rfl) dX9_urgent_1 ⟨Nat.zero_le _, Nat.zero_le _⟩ (fun x1 v1 H locs hw hP hS => ?_)
  refine lv_if_eq (tgt := 9) hx hb dX9_urgent_4 (by decide) (fun c4 => ?_) (fun c4 => ?_)
  · have hw := hw.1 c4
    refine lv_aload_n hx hb dX9_urgent_9 rfl (lv_at hl 0 rfl) ?_
    refine w_gR (C := RX9) (T := TX9) (N := 4) (ci := 9) hx hb hts in9 hown hK hP 1 th9.1 th9 rfl (by decide) (ch9_1 th9).1 (hts _ mf_X9_21) dX9_urgent_10 ?_
    refine lv_iload_n hx hb dX9_urgent_13 rfl (lv_at hl 1 rfl) ?_
    obtain ⟨hi2, hw⟩ := hw
    obtain ⟨t14, et14⟩ : ∃ y : Nat, y = 523 + 146 * (Int32.toNatClampNeg p1) := ⟨_, rfl⟩
    have hw := hw t14 et14
    have qt14 := arE (i := (Int32.toNatClampNeg p1)) (in_lt hi2)
    rw [← et14] at qt14
    refine w_aa (q0 := 3) hx hb hK hP (ch9_1 th9).2.1.1 (ch9_1 th9).2.1 (by decide) rfl (ch9_1 th9).2.2 hi2 qt14.1 dX9_urgent_14 ?_
    refine w_gR (C := RX0) (T := TX0) (N := 15) (ci := 0) hx hb hts in0 hown hK hP 5 qt14.2.1 qt14.2 rfl (by decide) (ch0_5 qt14.2).1 (hts _ mf_X9_64) dX9_urgent_15 ?_
    refine k_I (As := []) (rest := []) ⟨hx, hb, hml, hown, hts⟩ (t_X6_takeByte l dC dI base cy (t14 + 143) (ch0_5 qt14.2).2 v1 _ hw) (cwV 0 hts (gV ml_X9_68 mi_X6_takeByte mx_X6_takeByte mn_X6 mo_X6_takeByte) rfl rfl rfl (by decide +kernel) ⟨by decide, by decide⟩) hK hP hS (ch0_5 qt14.2).2 (by decide) rfl rfl hl.1 rfl (Nat.le_of_ble_eq_true rfl) dX9_urgent_18 ⟨Nat.zero_le _, Nat.zero_le _⟩ (fun x18 v3 H locs hw hP hS => ?_)
    exact hret _ _ _ _ _ _ dX9_urgent_21 hw hP hS
  · have hw := hw.2 c4
    refine lv_iconst (v := -1) hx hb dX9_urgent_7 (by decide) ?_
    exact hret _ _ _ _ _ _ dX9_urgent_8 hw hP hS
def w_X2_addFault (p1 : Int32) (p2 : Int32) (p3 : Int32) (p4 : Int32) (v : VV) (Q : Int32 → VV → Prop) : Prop :=
  ∀ x1 : Int32, x1 = v 1 7 → (x1 < 60 → ∀ x17 : Int32, x17 = v 1 7 → vp_in x17 60 ∧ ∀ v1 : VV, v1 = up2 v 5 (Int32.toNatClampNeg x17) p1 → ∀ x27 : Int32, x27 = v1 1 7 → vp_in x27 60 ∧ ∀ v3 : VV, v3 = up2 v1 6 (Int32.toNatClampNeg x27) p2 → ∀ x37 : Int32, x37 = v3 1 7 → vp_in x37 60 ∧ ∀ v5 : VV, v5 = up2 v3 7 (Int32.toNatClampNeg x37) p3 → ∀ x47 : Int32, x47 = v5 1 7 → vp_in x47 60 ∧ ∀ v7 : VV, v7 = up2 v5 8 (Int32.toNatClampNeg x47) p4 → ∀ x55 : Int32, x55 = v7 1 7 → ∀ x59 : Int32, x59 = x55 + 1 → ∀ v9 : VV, v9 = up2 v7 1 7 x59 → ∀ x64 : Int32, x64 = v9 1 7 → Q x64 v9) ∧ (¬ x1 < 60 → Q ((-3)) v)
set_option maxHeartbeats 4000000 in
set_option maxRecDepth 100000 in
/-- TransportFour$Net.addFault -/
theorem t_X2_addFault (l : Launch) (dC : Nat → ClassId) (dI : Nat → Nat → Nat) (base : Nat) (cy : Nat → ClassId) (p1 : Int32) (p2 : Int32) (p3 : Int32) (p4 : Int32) (v : VV) (Q : Int32 → VV → Prop) (hw : w_X2_addFault p1 p2 p3 p4 v Q) : CI l yX2_addFault (.code yX2_addFault cX2_addFault 5 (some .int) :: TB) { frames := 0, cells := 0, slots := 0, locals := 0 } dC dI base cy [.ref (base + 1), .int p1, .int p2, .int p3, .int p4] v Q := by
  refine Met.ofW (cc := cX2_addFault) (maxL := 5) (ret := (some .int)) (by decide) rfl ?_
  intro p e s m args below meth c s₁ B hml hv
  obtain ⟨rfl, hP, hK⟩ := hv
  have hx := B.exec
  have hb := B.bytes
  have hr := B.returns
  have hts0 := atoms_spec (ws := (.code yX2_addFault cX2_addFault 5 (some .int) :: TB)) B.pre
  have hts : ∀ w ∈ TB, w.before ([.ref (base + 1), .int p1, .int p2, .int p3, .int p4]).toArray s = true := fun w h => hts0 w (List.mem_cons_of_mem _ h)
  have hown : s.vm.findClass RX2 = some m.cls := findClass_of_methodNamed B.named
  have hlocks := B.notSynchronized
  have hS : va_S (fun q => base ≤ q) s.heap s.heap [] := va_S.rf
  have hl := lv_entry ([.ref (base + 1), .int p1, .int p2, .int p3, .int p4]) (n := 5) (Nat.le_of_ble_eq_true rfl)
  rw [lg_entry_eq]
  generalize (lg_sl ([.ref (base + 1), .int p1, .int p2, .int p3, .int p4]) ++ List.replicate (5 - (lg_sl ([.ref (base + 1), .int p1, .int p2, .int p3, .int p4])).length) Slot.unset).toArray = ls at hl ⊢
  have hl : lv_has ls 5 [(0, .ref (base + 1)), (1, .int p1), (2, .int p2), (3, .int p3), (4, .int p4)] := hl
  have hret : ∀ (pc : Nat) (x : Int32) (v : VV) (H : Heap) (locs : List Loc) (ls : Array Slot), decode cX2_addFault pc = .ok (.ireturn, 1) → Q x v → va_P (dC, dI) vwCl (Wd base cy rf v 874) H → va_S (fun q => base ≤ q) s.heap H locs → W p l e { frames := 0, cells := 0, slots := 0, locals := 0 } s m ([.ref (base + 1), .int p1, .int p2, .int p3, .int p4]).toArray below meth c H locs 0 0 (MQ below (va_Qi Q (Hp dC dI base cy) (fun q => base ≤ q)) ([.ref (base + 1), .int p1, .int p2, .int p3, .int p4]).toArray s 0 0 (fun q => base ≤ q)) (F0 m pc ls [.int x]) := fun pc x v H locs ls hd hq hP hS => W.iret (v := x) hx hb hr (fun t ht hW => ⟨⟨x, v, rfl, hq, by rw [ht]; exact hP, va_K.moved hW.alike hK⟩, hS.F ht⟩) hS.2.2 hd
  refine lv_aload_n hx hb dX2_addFault_0 rfl (lv_at hl 0 rfl) ?_
  refine w_gI (C := RX2) (T := TX2) (N := 11) (ci := 2) hx hb hts in2 hown hK hP 7 th2.1 th2 rfl (by decide) (hts _ mf_X2_38) dX2_addFault_1 ?_
  refine lv_topi (fun x1 ex1 => ?_)
  have hw := hw x1 ex1
  refine lv_bipush (v := 60) hx hb dX2_addFault_4 (by decide) ?_
  refine lv_icmp_lt (tgt := 12) hx hb dX2_addFault_6 (by decide) (fun c6 => ?_) (fun c6 => ?_)
  · have hw := hw.1 c6
    refine lv_aload_n hx hb dX2_addFault_12 rfl (lv_at hl 0 rfl) ?_
    refine w_gR (C := RX2) (T := TX2) (N := 11) (ci := 2) hx hb hts in2 hown hK hP 2 th2.1 th2 rfl (by decide) (ch2_2 th2).1 (hts _ mf_X2_22) dX2_addFault_13 ?_
    refine lv_aload_n hx hb dX2_addFault_16 rfl (lv_at hl 0 rfl) ?_
    refine w_gI (C := RX2) (T := TX2) (N := 11) (ci := 2) hx hb hts in2 hown hK hP 7 th2.1 th2 rfl (by decide) (hts _ mf_X2_38) dX2_addFault_17 ?_
    refine lv_topi (fun x17 ex17 => ?_)
    have hw := hw x17 ex17
    refine lv_iload_n hx hb dX2_addFault_20 rfl (lv_at hl 1 rfl) ?_
    obtain ⟨hi2, hw⟩ := hw
    refine w_is (N := 60) hx hb hK hP hS (ch2_2 th2).2.1.1 (ch2_2 th2).2.1 (ch2_2 th2).2.2 hi2 dX2_addFault_21 (fun v1 H locs hv1 hP hz hS => ?_)
    have hw := hw v1 hv1
    refine lv_aload_n hx hb dX2_addFault_22 rfl (lv_at hl 0 rfl) ?_
    refine w_gR (C := RX2) (T := TX2) (N := 11) (ci := 2) hx hb hts in2 hown hK hP 3 th2.1 th2 rfl (by decide) (ch2_3 th2).1 (hts _ mf_X2_26) dX2_addFault_23 ?_
    refine lv_aload_n hx hb dX2_addFault_26 rfl (lv_at hl 0 rfl) ?_
    refine w_gI (C := RX2) (T := TX2) (N := 11) (ci := 2) hx hb hts in2 hown hK hP 7 th2.1 th2 rfl (by decide) (hts _ mf_X2_38) dX2_addFault_27 ?_
    refine lv_topi (fun x27 ex27 => ?_)
    have hw := hw x27 ex27
    refine lv_iload_n hx hb dX2_addFault_30 rfl (lv_at hl 2 rfl) ?_
    obtain ⟨hi4, hw⟩ := hw
    refine w_is (N := 60) hx hb hK hP hS (ch2_3 th2).2.1.1 (ch2_3 th2).2.1 (ch2_3 th2).2.2 hi4 dX2_addFault_31 (fun v3 H locs hv3 hP hz hS => ?_)
    have hw := hw v3 hv3
    refine lv_aload_n hx hb dX2_addFault_32 rfl (lv_at hl 0 rfl) ?_
    refine w_gR (C := RX2) (T := TX2) (N := 11) (ci := 2) hx hb hts in2 hown hK hP 4 th2.1 th2 rfl (by decide) (ch2_4 th2).1 (hts _ mf_X2_29) dX2_addFault_33 ?_
    refine lv_aload_n hx hb dX2_addFault_36 rfl (lv_at hl 0 rfl) ?_
    refine w_gI (C := RX2) (T := TX2) (N := 11) (ci := 2) hx hb hts in2 hown hK hP 7 th2.1 th2 rfl (by decide) (hts _ mf_X2_38) dX2_addFault_37 ?_
    refine lv_topi (fun x37 ex37 => ?_)
    have hw := hw x37 ex37
    refine lv_iload_n hx hb dX2_addFault_40 rfl (lv_at hl 3 rfl) ?_
    obtain ⟨hi6, hw⟩ := hw
    refine w_is (N := 60) hx hb hK hP hS (ch2_4 th2).2.1.1 (ch2_4 th2).2.1 (ch2_4 th2).2.2 hi6 dX2_addFault_41 (fun v5 H locs hv5 hP hz hS => ?_)
    have hw := hw v5 hv5
    refine lv_aload_n hx hb dX2_addFault_42 rfl (lv_at hl 0 rfl) ?_
    refine w_gR (C := RX2) (T := TX2) (N := 11) (ci := 2) hx hb hts in2 hown hK hP 5 th2.1 th2 rfl (by decide) (ch2_5 th2).1 (hts _ mf_X2_32) dX2_addFault_43 ?_
    refine lv_aload_n hx hb dX2_addFault_46 rfl (lv_at hl 0 rfl) ?_
    refine w_gI (C := RX2) (T := TX2) (N := 11) (ci := 2) hx hb hts in2 hown hK hP 7 th2.1 th2 rfl (by decide) (hts _ mf_X2_38) dX2_addFault_47 ?_
    refine lv_topi (fun x47 ex47 => ?_)
    have hw := hw x47 ex47
    refine lv_iload hx hb dX2_addFault_50 (lv_at hl 4 rfl) ?_
    obtain ⟨hi8, hw⟩ := hw
    refine w_is (N := 60) hx hb hK hP hS (ch2_5 th2).2.1.1 (ch2_5 th2).2.1 (ch2_5 th2).2.2 hi8 dX2_addFault_52 (fun v7 H locs hv7 hP hz hS => ?_)
    have hw := hw v7 hv7
    refine lv_aload_n hx hb dX2_addFault_53 rfl (lv_at hl 0 rfl) ?_
    refine lv_dup hx hb dX2_addFault_54 rfl ?_
    refine w_gI (C := RX2) (T := TX2) (N := 11) (ci := 2) hx hb hts in2 hown hK hP 7 th2.1 th2 rfl (by decide) (hts _ mf_X2_38) dX2_addFault_55 ?_
    refine lv_topi (fun x55 ex55 => ?_)
    have hw := hw x55 ex55
    refine lv_iconst (v := 1) hx hb dX2_addFault_58 (by decide) ?_
    refine lv_iadd hx hb dX2_addFault_59 ?_
    refine lv_topi (fun x59 ex59 => ?_)
    have hw := hw x59 ex59
    refine w_pI (C := RX2) (T := TX2) (N := 11) (ci := 2) hx hb hts in2 tyX2 tyX2_ok nmX2 hown hK hP hS 7 th2.1 th2 rfl (by decide) (hts _ mf_X2_38) rfl (ty := .int) (by decide +kernel) rfl rfl dX2_addFault_60 (fun v9 H locs hv9 hP hz hS => ?_)
    have hw := hw v9 hv9
    refine lv_aload_n hx hb dX2_addFault_63 rfl (lv_at hl 0 rfl) ?_
    refine w_gI (C := RX2) (T := TX2) (N := 11) (ci := 2) hx hb hts in2 hown hK hP 7 th2.1 th2 rfl (by decide) (hts _ mf_X2_38) dX2_addFault_64 ?_
    refine lv_topi (fun x64 ex64 => ?_)
    have hw := hw x64 ex64
    exact hret _ _ _ _ _ _ dX2_addFault_67 hw hP hS
  · have hw := hw.2 c6
    refine lv_bipush (v := -3) hx hb dX2_addFault_9 (by decide) ?_
    exact hret _ _ _ _ _ _ dX2_addFault_11 hw hP hS
def b_X9_fault_48 (p1 : Int32) (p2 : Int32) (p3 : Int32) (p4 : Int32) (Q : Int32 → VV → Prop) (a1 : Int32) (a2 : Int32) (a3 : Int32) (a4 : Int32) (v : VV) : Prop :=
  w_X2_addFault a1 a2 a3 a4 v (fun (x57 : Int32) (v1 : VV) => Q x57 v1)
set_option maxHeartbeats 4000000 in
set_option maxRecDepth 100000 in
theorem tb_X9_fault_48 {p : Program} {l : Launch} {e : Env} {s : State} {m : MethodId} {args : Array Value} {below : List Frame} {meth : Method} {c : Code} {QQ : State → Prop} {dC : Nat → ClassId} {dI : Nat → Nat → Nat} {base : Nat} {cy : Nat → ClassId} (hx : p.tables.exec = Jvm.exec) (hb : c.code = cX9_fault) (hml : c.maxLocals = 5) (hown : s.vm.findClass RX9 = some m.cls) (hts : ∀ w ∈ TB, w.before args s = true) (hK : va_K (dC, dI) vwCl (tyL cy) s) (p1 : Int32) (p2 : Int32) (p3 : Int32) (p4 : Int32) (Q : Int32 → VV → Prop) (hret : ∀ (pc : Nat) (x : Int32) (v : VV) (H : Heap) (locs : List Loc) (ls : Array Slot), decode cX9_fault pc = .ok (.ireturn, 1) → Q x v → va_P (dC, dI) vwCl (Wd base cy rf v 874) H → va_S (fun q => base ≤ q) s.heap H locs → W p l e { frames := 1, cells := 0, slots := 0, locals := 24 } s m args below meth c H locs 0 0 QQ (F0 m pc ls [.int x])) (a1 : Int32) (a2 : Int32) (a3 : Int32) (a4 : Int32) (v : VV) (H : Heap) (locs : List Loc) (ls : Array Slot) (hw : b_X9_fault_48 p1 p2 p3 p4 Q  a1 a2 a3 a4 v) : lv_has ls 5 [(0, .ref (base + 0)), (1, .int a1), (2, .int a2), (3, .int a3), (4, .int a4)] → va_P (dC, dI) vwCl (Wd base cy rf v 874) H → va_S (fun q => base ≤ q) s.heap H locs → W p l e { frames := 1, cells := 0, slots := 0, locals := 24 } s m args below meth c H locs 0 0 QQ (F0 m 48 ls []) := by
  intro hl hP hS
  refine lv_aload_n hx hb dX9_fault_48 rfl (lv_at hl 0 rfl) ?_
  refine w_gR (C := RX9) (T := TX9) (N := 4) (ci := 9) hx hb hts in9 hown hK hP 0 th9.1 th9 rfl (by decide) (ch9_0 th9).1 (hts _ mf_X9_10) dX9_fault_49 ?_
  refine lv_iload_n hx hb dX9_fault_52 rfl (lv_at hl 1 rfl) ?_
  refine lv_iload_n hx hb dX9_fault_53 rfl (lv_at hl 2 rfl) ?_
  refine lv_iload_n hx hb dX9_fault_54 rfl (lv_at hl 3 rfl) ?_
  refine lv_iload hx hb dX9_fault_55 (lv_at hl 4 rfl) ?_
  refine k_I (As := [.int a1, .int a2, .int a3, .int a4]) (rest := []) ⟨hx, hb, hml, hown, hts⟩ (t_X2_addFault l dC dI base cy a1 a2 a3 a4 v _ hw) (cwV 4 hts (gV ml_X9_76 mi_X2_addFault mx_X2_addFault mn_X2 mo_X2_addFault) rfl rfl rfl (by decide +kernel) ⟨by decide, by decide⟩) hK hP hS (ch9_0 th9).2 (by decide) rfl rfl hl.1 rfl (Nat.le_of_ble_eq_true rfl) dX9_fault_57 ⟨Nat.zero_le _, Nat.zero_le _⟩ (fun x57 v1 H locs hw hP hS => ?_)
  exact hret _ _ _ _ _ _ dX9_fault_60 hw hP hS
def b_X9_fault_46 (p1 : Int32) (p2 : Int32) (p3 : Int32) (p4 : Int32) (Q : Int32 → VV → Prop) (a1 : Int32) (a2 : Int32) (a3 : Int32) (a4 : Int32) (v : VV) : Prop :=
  Q ((-1)) v
set_option maxHeartbeats 4000000 in
set_option maxRecDepth 100000 in
theorem tb_X9_fault_46 {p : Program} {l : Launch} {e : Env} {s : State} {m : MethodId} {args : Array Value} {below : List Frame} {meth : Method} {c : Code} {QQ : State → Prop} {dC : Nat → ClassId} {dI : Nat → Nat → Nat} {base : Nat} {cy : Nat → ClassId} (hx : p.tables.exec = Jvm.exec) (hb : c.code = cX9_fault) (hml : c.maxLocals = 5) (hown : s.vm.findClass RX9 = some m.cls) (hts : ∀ w ∈ TB, w.before args s = true) (hK : va_K (dC, dI) vwCl (tyL cy) s) (p1 : Int32) (p2 : Int32) (p3 : Int32) (p4 : Int32) (Q : Int32 → VV → Prop) (hret : ∀ (pc : Nat) (x : Int32) (v : VV) (H : Heap) (locs : List Loc) (ls : Array Slot), decode cX9_fault pc = .ok (.ireturn, 1) → Q x v → va_P (dC, dI) vwCl (Wd base cy rf v 874) H → va_S (fun q => base ≤ q) s.heap H locs → W p l e { frames := 1, cells := 0, slots := 0, locals := 24 } s m args below meth c H locs 0 0 QQ (F0 m pc ls [.int x])) (a1 : Int32) (a2 : Int32) (a3 : Int32) (a4 : Int32) (v : VV) (H : Heap) (locs : List Loc) (ls : Array Slot) (hw : b_X9_fault_46 p1 p2 p3 p4 Q  a1 a2 a3 a4 v) : lv_has ls 5 [(0, .ref (base + 0)), (1, .int a1), (2, .int a2), (3, .int a3), (4, .int a4)] → va_P (dC, dI) vwCl (Wd base cy rf v 874) H → va_S (fun q => base ≤ q) s.heap H locs → W p l e { frames := 1, cells := 0, slots := 0, locals := 24 } s m args below meth c H locs 0 0 QQ (F0 m 46 ls []) := by
  intro hl hP hS
  refine lv_iconst (v := -1) hx hb dX9_fault_46 (by decide) ?_
  exact hret _ _ _ _ _ _ dX9_fault_47 hw hP hS
def b_X9_fault_21 (p1 : Int32) (p2 : Int32) (p3 : Int32) (p4 : Int32) (Q : Int32 → VV → Prop) (a1 : Int32) (a2 : Int32) (a3 : Int32) (a4 : Int32) (v : VV) : Prop :=
  Q ((-1)) v
set_option maxHeartbeats 4000000 in
set_option maxRecDepth 100000 in
theorem tb_X9_fault_21 {p : Program} {l : Launch} {e : Env} {s : State} {m : MethodId} {args : Array Value} {below : List Frame} {meth : Method} {c : Code} {QQ : State → Prop} {dC : Nat → ClassId} {dI : Nat → Nat → Nat} {base : Nat} {cy : Nat → ClassId} (hx : p.tables.exec = Jvm.exec) (hb : c.code = cX9_fault) (hml : c.maxLocals = 5) (hown : s.vm.findClass RX9 = some m.cls) (hts : ∀ w ∈ TB, w.before args s = true) (hK : va_K (dC, dI) vwCl (tyL cy) s) (p1 : Int32) (p2 : Int32) (p3 : Int32) (p4 : Int32) (Q : Int32 → VV → Prop) (hret : ∀ (pc : Nat) (x : Int32) (v : VV) (H : Heap) (locs : List Loc) (ls : Array Slot), decode cX9_fault pc = .ok (.ireturn, 1) → Q x v → va_P (dC, dI) vwCl (Wd base cy rf v 874) H → va_S (fun q => base ≤ q) s.heap H locs → W p l e { frames := 1, cells := 0, slots := 0, locals := 24 } s m args below meth c H locs 0 0 QQ (F0 m pc ls [.int x])) (a1 : Int32) (a2 : Int32) (a3 : Int32) (a4 : Int32) (v : VV) (H : Heap) (locs : List Loc) (ls : Array Slot) (hw : b_X9_fault_21 p1 p2 p3 p4 Q  a1 a2 a3 a4 v) : lv_has ls 5 [(0, .ref (base + 0)), (1, .int a1), (2, .int a2), (3, .int a3), (4, .int a4)] → va_P (dC, dI) vwCl (Wd base cy rf v 874) H → va_S (fun q => base ≤ q) s.heap H locs → W p l e { frames := 1, cells := 0, slots := 0, locals := 24 } s m args below meth c H locs 0 0 QQ (F0 m 21 ls []) := by
  intro hl hP hS
  refine lv_iconst (v := -1) hx hb dX9_fault_21 (by decide) ?_
  exact hret _ _ _ _ _ _ dX9_fault_22 hw hP hS
def w_X9_fault (p1 : Int32) (p2 : Int32) (p3 : Int32) (p4 : Int32) (v : VV) (Q : Int32 → VV → Prop) : Prop :=
  (p1 < 1 → b_X9_fault_21 p1 p2 p3 p4 Q  p1 p2 p3 p4 v) ∧ (¬ p1 < 1 → (4 < p1 → b_X9_fault_21 p1 p2 p3 p4 Q  p1 p2 p3 p4 v) ∧ (¬ 4 < p1 → ∀ x15 : Int32, x15 = v 1 8 → (x15 ≤ p2 → (¬ p1 = 4 → b_X9_fault_48 p1 p2 p3 p4 Q  p1 p2 p3 p4 v) ∧ (p1 = 4 → (p3 < 0 → b_X9_fault_46 p1 p2 p3 p4 Q  p1 p2 p3 p4 v) ∧ (¬ p3 < 0 → (p4 < 1 → b_X9_fault_46 p1 p2 p3 p4 Q  p1 p2 p3 p4 v) ∧ (¬ p4 < 1 → (p4 ≤ 255 → b_X9_fault_48 p1 p2 p3 p4 Q  p1 p2 p3 p4 v) ∧ (¬ p4 ≤ 255 → b_X9_fault_46 p1 p2 p3 p4 Q  p1 p2 p3 p4 v))))) ∧ (¬ x15 ≤ p2 → b_X9_fault_21 p1 p2 p3 p4 Q  p1 p2 p3 p4 v)))
set_option maxHeartbeats 4000000 in
set_option maxRecDepth 100000 in
/-- TransportFour.fault -/
theorem t_X9_fault (l : Launch) (dC : Nat → ClassId) (dI : Nat → Nat → Nat) (base : Nat) (cy : Nat → ClassId) (p1 : Int32) (p2 : Int32) (p3 : Int32) (p4 : Int32) (v : VV) (Q : Int32 → VV → Prop) (hw : w_X9_fault p1 p2 p3 p4 v Q) : CI l yX9_fault (.code yX9_fault cX9_fault 5 (some .int) :: TB) { frames := 1, cells := 0, slots := 0, locals := 24 } dC dI base cy [.ref (base + 0), .int p1, .int p2, .int p3, .int p4] v Q := by
  refine Met.ofW (cc := cX9_fault) (maxL := 5) (ret := (some .int)) (by decide) rfl ?_
  intro p e s m args below meth c s₁ B hml hv
  obtain ⟨rfl, hP, hK⟩ := hv
  have hx := B.exec
  have hb := B.bytes
  have hr := B.returns
  have hts0 := atoms_spec (ws := (.code yX9_fault cX9_fault 5 (some .int) :: TB)) B.pre
  have hts : ∀ w ∈ TB, w.before ([.ref (base + 0), .int p1, .int p2, .int p3, .int p4]).toArray s = true := fun w h => hts0 w (List.mem_cons_of_mem _ h)
  have hown : s.vm.findClass RX9 = some m.cls := findClass_of_methodNamed B.named
  have hlocks := B.notSynchronized
  have hS : va_S (fun q => base ≤ q) s.heap s.heap [] := va_S.rf
  have hl := lv_entry ([.ref (base + 0), .int p1, .int p2, .int p3, .int p4]) (n := 5) (Nat.le_of_ble_eq_true rfl)
  rw [lg_entry_eq]
  generalize (lg_sl ([.ref (base + 0), .int p1, .int p2, .int p3, .int p4]) ++ List.replicate (5 - (lg_sl ([.ref (base + 0), .int p1, .int p2, .int p3, .int p4])).length) Slot.unset).toArray = ls at hl ⊢
  have hl : lv_has ls 5 [(0, .ref (base + 0)), (1, .int p1), (2, .int p2), (3, .int p3), (4, .int p4)] := hl
  have hret : ∀ (pc : Nat) (x : Int32) (v : VV) (H : Heap) (locs : List Loc) (ls : Array Slot), decode cX9_fault pc = .ok (.ireturn, 1) → Q x v → va_P (dC, dI) vwCl (Wd base cy rf v 874) H → va_S (fun q => base ≤ q) s.heap H locs → W p l e { frames := 1, cells := 0, slots := 0, locals := 24 } s m ([.ref (base + 0), .int p1, .int p2, .int p3, .int p4]).toArray below meth c H locs 0 0 (MQ below (va_Qi Q (Hp dC dI base cy) (fun q => base ≤ q)) ([.ref (base + 0), .int p1, .int p2, .int p3, .int p4]).toArray s 0 0 (fun q => base ≤ q)) (F0 m pc ls [.int x]) := fun pc x v H locs ls hd hq hP hS => W.iret (v := x) hx hb hr (fun t ht hW => ⟨⟨x, v, rfl, hq, by rw [ht]; exact hP, va_K.moved hW.alike hK⟩, hS.F ht⟩) hS.2.2 hd
  refine lv_iload_n hx hb dX9_fault_0 rfl (lv_at hl 1 rfl) ?_
  refine lv_iconst (v := 1) hx hb dX9_fault_1 (by decide) ?_
  refine lv_icmp_lt (tgt := 21) hx hb dX9_fault_2 (by decide) (fun c2 => ?_) (fun c2 => ?_)
  · have hw := hw.1 c2
    exact tb_X9_fault_21 hx hb hml hown hts hK p1 p2 p3 p4 _ hret  p1 p2 p3 p4 v _ _ _ hw (lv_sub hl [0, 1, 2, 3, 4] rfl) hP hS
  · have hw := hw.2 c2
    refine lv_iload_n hx hb dX9_fault_5 rfl (lv_at hl 1 rfl) ?_
    refine lv_iconst (v := 4) hx hb dX9_fault_6 (by decide) ?_
    refine lv_icmp_gt (tgt := 21) hx hb dX9_fault_7 (by decide) (fun c7 => ?_) (fun c7 => ?_)
    · have hw := hw.1 c7
      exact tb_X9_fault_21 hx hb hml hown hts hK p1 p2 p3 p4 _ hret  p1 p2 p3 p4 v _ _ _ hw (lv_sub hl [0, 1, 2, 3, 4] rfl) hP hS
    · have hw := hw.2 c7
      refine lv_iload_n hx hb dX9_fault_10 rfl (lv_at hl 2 rfl) ?_
      refine lv_aload_n hx hb dX9_fault_11 rfl (lv_at hl 0 rfl) ?_
      refine w_gR (C := RX9) (T := TX9) (N := 4) (ci := 9) hx hb hts in9 hown hK hP 0 th9.1 th9 rfl (by decide) (ch9_0 th9).1 (hts _ mf_X9_10) dX9_fault_12 ?_
      refine w_gI (C := RX2) (T := TX2) (N := 11) (ci := 2) hx hb hts in2 hown hK hP 8 (ch9_0 th9).2.1 (ch9_0 th9).2 rfl (by decide) (hts _ mf_X9_73) dX9_fault_15 ?_
      refine lv_topi (fun x15 ex15 => ?_)
      have hw := hw x15 ex15
      refine lv_icmp_ge (tgt := 23) hx hb dX9_fault_18 (by decide) (fun c18 => ?_) (fun c18 => ?_)
      · have hw := hw.1 c18
        refine lv_iload_n hx hb dX9_fault_23 rfl (lv_at hl 1 rfl) ?_
        refine lv_iconst (v := 4) hx hb dX9_fault_24 (by decide) ?_
        refine lv_icmp_ne (tgt := 48) hx hb dX9_fault_25 (by decide) (fun c25 => ?_) (fun c25 => ?_)
        · have hw := hw.1 c25
          exact tb_X9_fault_48 hx hb hml hown hts hK p1 p2 p3 p4 _ hret  p1 p2 p3 p4 v _ _ _ hw (lv_sub hl [0, 1, 2, 3, 4] rfl) hP hS
        · have hw := hw.2 c25
          refine lv_iload_n hx hb dX9_fault_28 rfl (lv_at hl 3 rfl) ?_
          refine lv_if_lt (tgt := 46) hx hb dX9_fault_29 (by decide) (fun c29 => ?_) (fun c29 => ?_)
          · have hw := hw.1 c29
            exact tb_X9_fault_46 hx hb hml hown hts hK p1 p2 p3 p4 _ hret  p1 p2 p3 p4 v _ _ _ hw (lv_sub hl [0, 1, 2, 3, 4] rfl) hP hS
          · have hw := hw.2 c29
            refine lv_iload hx hb dX9_fault_32 (lv_at hl 4 rfl) ?_
            refine lv_iconst (v := 1) hx hb dX9_fault_34 (by decide) ?_
            refine lv_icmp_lt (tgt := 46) hx hb dX9_fault_35 (by decide) (fun c35 => ?_) (fun c35 => ?_)
            · have hw := hw.1 c35
              exact tb_X9_fault_46 hx hb hml hown hts hK p1 p2 p3 p4 _ hret  p1 p2 p3 p4 v _ _ _ hw (lv_sub hl [0, 1, 2, 3, 4] rfl) hP hS
            · have hw := hw.2 c35
              refine lv_iload hx hb dX9_fault_38 (lv_at hl 4 rfl) ?_
              refine lv_sipush (v := 255) hx hb dX9_fault_40 (by decide) ?_
              refine lv_icmp_le (tgt := 48) hx hb dX9_fault_43 (by decide) (fun c43 => ?_) (fun c43 => ?_)
              · have hw := hw.1 c43
                exact tb_X9_fault_48 hx hb hml hown hts hK p1 p2 p3 p4 _ hret  p1 p2 p3 p4 v _ _ _ hw (lv_sub hl [0, 1, 2, 3, 4] rfl) hP hS
              · have hw := hw.2 c43
                exact tb_X9_fault_46 hx hb hml hown hts hK p1 p2 p3 p4 _ hret  p1 p2 p3 p4 v _ _ _ hw (lv_sub hl [0, 1, 2, 3, 4] rfl) hP hS
      · have hw := hw.2 c18
        exact tb_X9_fault_21 hx hb hml hown hts hK p1 p2 p3 p4 _ hret  p1 p2 p3 p4 v _ _ _ hw (lv_sub hl [0, 1, 2, 3, 4] rfl) hP hS
def b_X2_arrivesNow_21 (p1 : Int32) (p2 : Int32) (Q : Int32 → VV → Prop) (a1 : Int32) (a2 : Int32) (a3 : Nat) (s0 : Int32) (v : VV) : Prop :=
  ∀ x22 : Int32, x22 = v 1 10 → (¬ s0 = x22 → Q 0 v) ∧ (s0 = x22 → Q 1 v)
set_option maxHeartbeats 4000000 in
set_option maxRecDepth 100000 in
theorem tb_X2_arrivesNow_21 {p : Program} {l : Launch} {e : Env} {s : State} {m : MethodId} {args : Array Value} {below : List Frame} {meth : Method} {c : Code} {QQ : State → Prop} {dC : Nat → ClassId} {dI : Nat → Nat → Nat} {base : Nat} {cy : Nat → ClassId} (hx : p.tables.exec = Jvm.exec) (hb : c.code = cX2_arrivesNow) (hml : c.maxLocals = 4) (hown : s.vm.findClass RX2 = some m.cls) (hts : ∀ w ∈ TB, w.before args s = true) (hK : va_K (dC, dI) vwCl (tyL cy) s) (p1 : Int32) (p2 : Int32) (Q : Int32 → VV → Prop) (hret : ∀ (pc : Nat) (x : Int32) (v : VV) (H : Heap) (locs : List Loc) (ls : Array Slot), decode cX2_arrivesNow pc = .ok (.ireturn, 1) → (x = 0 ∨ x = 1) → Q x v → va_P (dC, dI) vwCl (Wd base cy rf v 874) H → va_S (fun q => base ≤ q) s.heap H locs → W p l e { frames := 1, cells := 0, slots := 0, locals := 21 } s m args below meth c H locs 0 0 QQ (F0 m pc ls [.int x])) (a1 : Int32) (a2 : Int32) (a3 : Nat) (ha3 : isO 5 a3) (s0 : Int32) (v : VV) (H : Heap) (locs : List Loc) (ls : Array Slot) (hw : b_X2_arrivesNow_21 p1 p2 Q  a1 a2 a3 s0 v) : lv_has ls 4 [(0, .ref (base + 1)), (1, .int a1), (2, .int a2), (3, .ref (base + a3))] → va_P (dC, dI) vwCl (Wd base cy rf v 874) H → va_S (fun q => base ≤ q) s.heap H locs → W p l e { frames := 1, cells := 0, slots := 0, locals := 21 } s m args below meth c H locs 0 0 QQ (F0 m 21 ls [.int s0]) := by
  intro hl hP hS
  refine lv_aload_n hx hb dX2_arrivesNow_21 rfl (lv_at hl 0 rfl) ?_
  refine w_gI (C := RX2) (T := TX2) (N := 11) (ci := 2) hx hb hts in2 hown hK hP 10 th2.1 th2 rfl (by decide) (hts _ mf_X2_63) dX2_arrivesNow_22 ?_
  refine lv_topi (fun x22 ex22 => ?_)
  have hw := hw x22 ex22
  refine lv_icmp_ne (tgt := 32) hx hb dX2_arrivesNow_25 (by decide) (fun c25 => ?_) (fun c25 => ?_)
  · have hw := hw.1 c25
    refine lv_iconst (v := 0) hx hb dX2_arrivesNow_32 (by decide) ?_
    exact hret _ _ _ _ _ _ dX2_arrivesNow_33 (by decide) hw hP hS
  · have hw := hw.2 c25
    refine lv_iconst (v := 1) hx hb dX2_arrivesNow_28 (by decide) ?_
    refine lv_goto (tgt := 33) hx hb dX2_arrivesNow_29 (by decide) ?_
    exact hret _ _ _ _ _ _ dX2_arrivesNow_33 (by decide) hw hP hS
def w_X2_arrivesNow (p1 : Int32) (p2 : Int32) (v : VV) (Q : Int32 → VV → Prop) : Prop :=
  w_X2_unitOf p1 v (fun (t2 : Nat) (v1 : VV) => isO 5 t2 ∧ (p2 = 0 → ∀ x18 : Int32, x18 = v1 t2 3 → b_X2_arrivesNow_21 p1 p2 Q  p1 p2 t2 x18 v1) ∧ (¬ p2 = 0 → ∀ x11 : Int32, x11 = v1 t2 4 → b_X2_arrivesNow_21 p1 p2 Q  p1 p2 t2 x11 v1))
set_option maxHeartbeats 4000000 in
set_option maxRecDepth 100000 in
/-- TransportFour$Net.arrivesNow -/
theorem t_X2_arrivesNow (l : Launch) (dC : Nat → ClassId) (dI : Nat → Nat → Nat) (base : Nat) (cy : Nat → ClassId) (p1 : Int32) (p2 : Int32) (v : VV) (Q : Int32 → VV → Prop) (hw : w_X2_arrivesNow p1 p2 v Q) : CI l yX2_arrivesNow (.code yX2_arrivesNow cX2_arrivesNow 4 (some .boolean) :: TB) { frames := 1, cells := 0, slots := 0, locals := 21 } dC dI base cy [.ref (base + 1), .int p1, .int p2] v Q := by
  refine Met.ofW (cc := cX2_arrivesNow) (maxL := 4) (ret := (some .boolean)) (by decide) rfl ?_
  intro p e s m args below meth c s₁ B hml hv
  obtain ⟨rfl, hP, hK⟩ := hv
  have hx := B.exec
  have hb := B.bytes
  have hr := B.returns
  have hts0 := atoms_spec (ws := (.code yX2_arrivesNow cX2_arrivesNow 4 (some .boolean) :: TB)) B.pre
  have hts : ∀ w ∈ TB, w.before ([.ref (base + 1), .int p1, .int p2]).toArray s = true := fun w h => hts0 w (List.mem_cons_of_mem _ h)
  have hown : s.vm.findClass RX2 = some m.cls := findClass_of_methodNamed B.named
  have hlocks := B.notSynchronized
  have hS : va_S (fun q => base ≤ q) s.heap s.heap [] := va_S.rf
  have hl := lv_entry ([.ref (base + 1), .int p1, .int p2]) (n := 4) (Nat.le_of_ble_eq_true rfl)
  rw [lg_entry_eq]
  generalize (lg_sl ([.ref (base + 1), .int p1, .int p2]) ++ List.replicate (4 - (lg_sl ([.ref (base + 1), .int p1, .int p2])).length) Slot.unset).toArray = ls at hl ⊢
  have hl : lv_has ls 4 [(0, .ref (base + 1)), (1, .int p1), (2, .int p2)] := hl
  have hret : ∀ (pc : Nat) (x : Int32) (v : VV) (H : Heap) (locs : List Loc) (ls : Array Slot), decode cX2_arrivesNow pc = .ok (.ireturn, 1) → (x = 0 ∨ x = 1) → Q x v → va_P (dC, dI) vwCl (Wd base cy rf v 874) H → va_S (fun q => base ≤ q) s.heap H locs → W p l e { frames := 1, cells := 0, slots := 0, locals := 21 } s m ([.ref (base + 1), .int p1, .int p2]).toArray below meth c H locs 0 0 (MQ below (va_Qi Q (Hp dC dI base cy) (fun q => base ≤ q)) ([.ref (base + 1), .int p1, .int p2]).toArray s 0 0 (fun q => base ≤ q)) (F0 m pc ls [.int x]) := fun pc x v H locs ls hd hz hq hP hS => W.zret (v := x) hx hb hr (zb_n hz) (fun t ht hW => ⟨⟨x, v, rfl, hq, by rw [ht]; exact hP, va_K.moved hW.alike hK⟩, hS.F ht⟩) hS.2.2 hd
  refine lv_aload_n hx hb dX2_arrivesNow_0 rfl (lv_at hl 0 rfl) ?_
  refine lv_iload_n hx hb dX2_arrivesNow_1 rfl (lv_at hl 1 rfl) ?_
  refine k_Q (As := [.int p1]) (rest := []) ⟨hx, hb, hml, hown, hts⟩ (t_X2_unitOf l dC dI base cy p1 v _ hw) (cwV 1 hts (gV ml_X2_45 mi_X2_unitOf mx_X2_unitOf mn_X2 mo_X2_unitOf) rfl rfl rfl (by decide +kernel) ⟨by decide, by decide⟩) hK hP hS th2 (by decide) rfl rfl hl.1 rfl (Nat.le_of_ble_eq_true rfl) dX2_arrivesNow_2 ⟨Nat.zero_le _, Nat.zero_le _⟩ (fun t2 v1 H locs hw hP hS => ?_)
  obtain ⟨ht2, hw⟩ := hw
  refine lv_astore_n (lv' := [(3, .ref (base + t2)), (0, .ref (base + 1)), (1, .int p1), (2, .int p2)]) hx hb dX2_arrivesNow_5 rfl hl (by decide) rfl (fun ls hl => ?_)
  refine lv_iload_n hx hb dX2_arrivesNow_6 rfl (lv_at hl 3 rfl) ?_
  refine lv_if_eq (tgt := 17) hx hb dX2_arrivesNow_7 (by decide) (fun c7 => ?_) (fun c7 => ?_)
  · have hw := hw.1 c7
    refine lv_aload_n hx hb dX2_arrivesNow_17 rfl (lv_at hl 0 rfl) ?_
    refine w_gI (C := RX5) (T := TX5) (N := 7) (ci := 5) hx hb hts in5 hown hK hP 3 ht2.1 ht2 rfl (by decide) (hts _ mf_X2_66) dX2_arrivesNow_18 ?_
    refine lv_topi (fun x18 ex18 => ?_)
    have hw := hw x18 ex18
    exact tb_X2_arrivesNow_21 hx hb hml hown hts hK p1 p2 _ hret  p1 p2 t2 ht2 x18 v1 _ _ _ hw (lv_sub hl [1, 2, 3, 0] rfl) hP hS
  · have hw := hw.2 c7
    refine lv_aload_n hx hb dX2_arrivesNow_10 rfl (lv_at hl 0 rfl) ?_
    refine w_gI (C := RX5) (T := TX5) (N := 7) (ci := 5) hx hb hts in5 hown hK hP 4 ht2.1 ht2 rfl (by decide) (hts _ mf_X2_69) dX2_arrivesNow_11 ?_
    refine lv_topi (fun x11 ex11 => ?_)
    have hw := hw x11 ex11
    refine lv_goto (tgt := 21) hx hb dX2_arrivesNow_14 (by decide) ?_
    exact tb_X2_arrivesNow_21 hx hb hml hown hts hK p1 p2 _ hret  p1 p2 t2 ht2 x11 v1 _ _ _ hw (lv_sub hl [1, 2, 3, 0] rfl) hP hS
def b_X2_unitAsItArrives_84 (p1 : Int32) (Q : Nat → VV → Prop) (a1 : Int32) (a2 : Nat) (v : VV) : Prop :=
  Q 3 v
set_option maxHeartbeats 4000000 in
set_option maxRecDepth 100000 in
theorem tb_X2_unitAsItArrives_84 {p : Program} {l : Launch} {e : Env} {s : State} {m : MethodId} {args : Array Value} {below : List Frame} {meth : Method} {c : Code} {QQ : State → Prop} {dC : Nat → ClassId} {dI : Nat → Nat → Nat} {base : Nat} {cy : Nat → ClassId} (hx : p.tables.exec = Jvm.exec) (hb : c.code = cX2_unitAsItArrives) (hml : c.maxLocals = 3) (hown : s.vm.findClass RX2 = some m.cls) (hts : ∀ w ∈ TB, w.before args s = true) (hK : va_K (dC, dI) vwCl (tyL cy) s) (p1 : Int32) (Q : Nat → VV → Prop) (hret : ∀ (pc t : Nat) (v : VV) (H : Heap) (locs : List Loc) (ls : Array Slot), decode cX2_unitAsItArrives pc = .ok (.areturn, 1) → Q t v → va_P (dC, dI) vwCl (Wd base cy rf v 874) H → va_S (fun q => base ≤ q) s.heap H locs → W p l e { frames := 1, cells := 0, slots := 0, locals := 26 } s m args below meth c H locs 0 0 QQ (F0 m pc ls [.ref (base + t)])) (a1 : Int32) (a2 : Nat) (ha2 : isO 5 a2) (v : VV) (H : Heap) (locs : List Loc) (ls : Array Slot) (hw : b_X2_unitAsItArrives_84 p1 Q  a1 a2 v) : lv_has ls 3 [(0, .ref (base + 1)), (1, .int a1), (2, .ref (base + a2))] → va_P (dC, dI) vwCl (Wd base cy rf v 874) H → va_S (fun q => base ≤ q) s.heap H locs → W p l e { frames := 1, cells := 0, slots := 0, locals := 26 } s m args below meth c H locs 0 0 QQ (F0 m 84 ls []) := by
  intro hl hP hS
  refine lv_aload_n hx hb dX2_unitAsItArrives_84 rfl (lv_at hl 0 rfl) ?_
  refine w_gR (C := RX2) (T := TX2) (N := 11) (ci := 2) hx hb hts in2 hown hK hP 1 th2.1 th2 rfl (by decide) (ch2_1 th2).1 (hts _ mf_X2_18) dX2_unitAsItArrives_85 ?_
  exact hret _ _ _ _ _ _ dX2_unitAsItArrives_88 hw hP hS
def w_X2_unitAsItArrives (p1 : Int32) (v : VV) (Q : Nat → VV → Prop) : Prop :=
  w_X2_unitOf p1 v (fun (t2 : Nat) (v1 : VV) => isO 5 t2 ∧ (¬ (0 : Int32) < 0 ∧ ¬ (0 : Int32) < 0 ∧ ¬ (17 : Int32) < 0 ∧ (Int32.toNatClampNeg 0) + (Int32.toNatClampNeg 17) ≤ 17 ∧ (Int32.toNatClampNeg 0) + (Int32.toNatClampNeg 17) ≤ 17) ∧ ∀ v2 : VV, v2 = up1 v1 4 (va_cpy (v1 (t2 + 1)) (v1 4) (Int32.toNatClampNeg 0) (Int32.toNatClampNeg 0) (Int32.toNatClampNeg 17)) → ∀ x29 : Int32, x29 = v2 t2 1 → ∀ v3 : VV, v3 = up2 v2 3 1 x29 → ∀ x40 : Int32, x40 = v3 t2 2 → ∀ v4 : VV, v4 = up2 v3 3 2 x40 → ∀ x47 : Int32, x47 = v4 t2 6 → (x47 = 0 → b_X2_unitAsItArrives_84 p1 Q  p1 t2 v4) ∧ (¬ x47 = 0 → ∀ x54 : Int32, x54 = v4 t2 1 → (x54 ≤ 0 → b_X2_unitAsItArrives_84 p1 Q  p1 t2 v4) ∧ (¬ x54 ≤ 0 → ∀ x68 : Int32, x68 = v4 t2 5 → ∀ x72 : Int32, x72 = v4 t2 1 → (¬ x72 = 0) ∧ ∀ x75 : Int32, x75 = x68 - x68 / x72 * x72 → vp_in x75 17 ∧ ∀ x77 : Int32, x77 = v4 4 (Int32.toNatClampNeg x75) → ∀ x79 : Int32, x79 = v4 t2 6 → ∀ x82 : Int32, x82 = x77 ^^^ x79 → vp_in x75 17 ∧ ∀ v6 : VV, v6 = up2 v4 4 (Int32.toNatClampNeg x75) x82 → b_X2_unitAsItArrives_84 p1 Q  p1 t2 v6)))
set_option maxHeartbeats 4000000 in
set_option maxRecDepth 100000 in
/-- TransportFour$Net.unitAsItArrives -/
theorem t_X2_unitAsItArrives (l : Launch) (dC : Nat → ClassId) (dI : Nat → Nat → Nat) (base : Nat) (cy : Nat → ClassId) (p1 : Int32) (v : VV) (Q : Nat → VV → Prop) (hw : w_X2_unitAsItArrives p1 v Q) : CQ l yX2_unitAsItArrives (.code yX2_unitAsItArrives cX2_unitAsItArrives 3 (some (.object "TransportFour$Unit")) :: TB) { frames := 1, cells := 0, slots := 0, locals := 26 } dC dI base cy [.ref (base + 1), .int p1] v Q := by
  refine Met.ofW (cc := cX2_unitAsItArrives) (maxL := 3) (ret := (some (.object "TransportFour$Unit"))) (by decide) rfl ?_
  intro p e s m args below meth c s₁ B hml hv
  obtain ⟨rfl, hP, hK⟩ := hv
  have hx := B.exec
  have hb := B.bytes
  have hr := B.returns
  have hts0 := atoms_spec (ws := (.code yX2_unitAsItArrives cX2_unitAsItArrives 3 (some (.object "TransportFour$Unit")) :: TB)) B.pre
  have hts : ∀ w ∈ TB, w.before ([.ref (base + 1), .int p1]).toArray s = true := fun w h => hts0 w (List.mem_cons_of_mem _ h)
  have hown : s.vm.findClass RX2 = some m.cls := findClass_of_methodNamed B.named
  have hlocks := B.notSynchronized
  have hS : va_S (fun q => base ≤ q) s.heap s.heap [] := va_S.rf
  have hl := lv_entry ([.ref (base + 1), .int p1]) (n := 3) (Nat.le_of_ble_eq_true rfl)
  rw [lg_entry_eq]
  generalize (lg_sl ([.ref (base + 1), .int p1]) ++ List.replicate (3 - (lg_sl ([.ref (base + 1), .int p1])).length) Slot.unset).toArray = ls at hl ⊢
  have hl : lv_has ls 3 [(0, .ref (base + 1)), (1, .int p1)] := hl
  have hret : ∀ (pc t : Nat) (v : VV) (H : Heap) (locs : List Loc) (ls : Array Slot), decode cX2_unitAsItArrives pc = .ok (.areturn, 1) → Q t v → va_P (dC, dI) vwCl (Wd base cy rf v 874) H → va_S (fun q => base ≤ q) s.heap H locs → W p l e { frames := 1, cells := 0, slots := 0, locals := 26 } s m ([.ref (base + 1), .int p1]).toArray below meth c H locs 0 0 (MQ below (va_Qr (fun u : Nat × VV => Q u.1 u.2) (fun u a U => a = base + u.1 ∧ Hp dC dI base cy u.2 U) (fun q => base ≤ q)) ([.ref (base + 1), .int p1]).toArray s 0 0 (fun q => base ≤ q)) (F0 m pc ls [.ref (base + t)]) := fun pc t v H locs ls hd hq hP hS => W.aret hx hb hr (Or.inl ⟨_, rfl⟩) (Or.inr ⟨_, rfl⟩) (fun tt ht hW => ⟨⟨(t, v), _, rfl, hq, rfl, by rw [ht]; exact hP, va_K.moved hW.alike hK⟩, hS.F ht⟩) hS.2.2 hd
  refine lv_aload_n hx hb dX2_unitAsItArrives_0 rfl (lv_at hl 0 rfl) ?_
  refine lv_iload_n hx hb dX2_unitAsItArrives_1 rfl (lv_at hl 1 rfl) ?_
  refine k_Q (As := [.int p1]) (rest := []) ⟨hx, hb, hml, hown, hts⟩ (t_X2_unitOf l dC dI base cy p1 v _ hw) (cwV 1 hts (gV ml_X2_45 mi_X2_unitOf mx_X2_unitOf mn_X2 mo_X2_unitOf) rfl rfl rfl (by decide +kernel) ⟨by decide, by decide⟩) hK hP hS th2 (by decide) rfl rfl hl.1 rfl (Nat.le_of_ble_eq_true rfl) dX2_unitAsItArrives_2 ⟨Nat.zero_le _, Nat.zero_le _⟩ (fun t2 v1 H locs hw hP hS => ?_)
  obtain ⟨ht2, hw⟩ := hw
  refine lv_astore_n (lv' := [(2, .ref (base + t2)), (0, .ref (base + 1)), (1, .int p1)]) hx hb dX2_unitAsItArrives_5 rfl hl (by decide) rfl (fun ls hl => ?_)
  refine lv_aload_n hx hb dX2_unitAsItArrives_6 rfl (lv_at hl 0 rfl) ?_
  refine w_gR (C := RX5) (T := TX5) (N := 7) (ci := 5) hx hb hts in5 hown hK hP 0 ht2.1 ht2 rfl (by decide) (ch5_0 ht2).1 (hts _ mf_X2_85) dX2_unitAsItArrives_7 ?_
  refine lv_iconst (v := 0) hx hb dX2_unitAsItArrives_10 (by decide) ?_
  refine lv_aload_n hx hb dX2_unitAsItArrives_11 rfl (lv_at hl 1 rfl) ?_
  refine w_gR (C := RX2) (T := TX2) (N := 11) (ci := 2) hx hb hts in2 hown hK hP 1 th2.1 th2 rfl (by decide) (ch2_1 th2).1 (hts _ mf_X2_18) dX2_unitAsItArrives_12 ?_
  refine w_gR (C := RX5) (T := TX5) (N := 7) (ci := 5) hx hb hts in5 hown hK hP 0 (ch2_1 th2).2.1 (ch2_1 th2).2 rfl (by decide) (ch5_0 (ch2_1 th2).2).1 (hts _ mf_X2_85) dX2_unitAsItArrives_15 ?_
  refine lv_iconst (v := 0) hx hb dX2_unitAsItArrives_18 (by decide) ?_
  refine lv_bipush (v := 17) hx hb dX2_unitAsItArrives_19 (by decide) ?_
  obtain ⟨hcp, hw⟩ := hw
  refine w_cp hx hb (hml.trans hl.1.symm) hown (hts _ ml_X2_88) (hts _ mcp_n) (hts _ mcp_s) (hts _ mcp_i) hK hP hS (ch5_0 ht2).2.1.1 (ch5_0 ht2).2.1 (ch5_0 ht2).2.2 (ch5_0 (ch2_1 th2).2).2.1.1 (ch5_0 (ch2_1 th2).2).2.1 (ch5_0 (ch2_1 th2).2).2.2 hcp (by decide) (Nat.le_of_ble_eq_true rfl) dX2_unitAsItArrives_21 (fun v2 H locs hv2 hP hS => ?_)
  have hw := hw v2 hv2
  refine lv_aload_n hx hb dX2_unitAsItArrives_24 rfl (lv_at hl 1 rfl) ?_
  refine w_gR (C := RX2) (T := TX2) (N := 11) (ci := 2) hx hb hts in2 hown hK hP 1 th2.1 th2 rfl (by decide) (ch2_1 th2).1 (hts _ mf_X2_18) dX2_unitAsItArrives_25 ?_
  refine lv_aload_n hx hb dX2_unitAsItArrives_28 rfl (lv_at hl 0 rfl) ?_
  refine w_gI (C := RX5) (T := TX5) (N := 7) (ci := 5) hx hb hts in5 hown hK hP 1 ht2.1 ht2 rfl (by decide) (hts _ mf_X2_94) dX2_unitAsItArrives_29 ?_
  refine lv_topi (fun x29 ex29 => ?_)
  have hw := hw x29 ex29
  refine w_pI (C := RX5) (T := TX5) (N := 7) (ci := 5) hx hb hts in5 tyX5 tyX5_ok nmX5 hown hK hP hS 1 (ch2_1 th2).2.1 (ch2_1 th2).2 rfl (by decide) (hts _ mf_X2_94) rfl (ty := .int) (by decide +kernel) rfl rfl dX2_unitAsItArrives_32 (fun v3 H locs hv3 hP hz hS => ?_)
  have hw := hw v3 hv3
  refine lv_aload_n hx hb dX2_unitAsItArrives_35 rfl (lv_at hl 1 rfl) ?_
  refine w_gR (C := RX2) (T := TX2) (N := 11) (ci := 2) hx hb hts in2 hown hK hP 1 th2.1 th2 rfl (by decide) (ch2_1 th2).1 (hts _ mf_X2_18) dX2_unitAsItArrives_36 ?_
  refine lv_aload_n hx hb dX2_unitAsItArrives_39 rfl (lv_at hl 0 rfl) ?_
  refine w_gI (C := RX5) (T := TX5) (N := 7) (ci := 5) hx hb hts in5 hown hK hP 2 ht2.1 ht2 rfl (by decide) (hts _ mf_X2_60) dX2_unitAsItArrives_40 ?_
  refine lv_topi (fun x40 ex40 => ?_)
  have hw := hw x40 ex40
  refine w_pI (C := RX5) (T := TX5) (N := 7) (ci := 5) hx hb hts in5 tyX5 tyX5_ok nmX5 hown hK hP hS 2 (ch2_1 th2).2.1 (ch2_1 th2).2 rfl (by decide) (hts _ mf_X2_60) rfl (ty := .int) (by decide +kernel) rfl rfl dX2_unitAsItArrives_43 (fun v4 H locs hv4 hP hz hS => ?_)
  have hw := hw v4 hv4
  refine lv_aload_n hx hb dX2_unitAsItArrives_46 rfl (lv_at hl 0 rfl) ?_
  refine w_gI (C := RX5) (T := TX5) (N := 7) (ci := 5) hx hb hts in5 hown hK hP 6 ht2.1 ht2 rfl (by decide) (hts _ mf_X2_72) dX2_unitAsItArrives_47 ?_
  refine lv_topi (fun x47 ex47 => ?_)
  have hw := hw x47 ex47
  refine lv_if_eq (tgt := 84) hx hb dX2_unitAsItArrives_50 (by decide) (fun c50 => ?_) (fun c50 => ?_)
  · have hw := hw.1 c50
    exact tb_X2_unitAsItArrives_84 hx hb hml hown hts hK p1 _ hret  p1 t2 ht2 v4 _ _ _ hw (lv_sub hl [1, 2, 0] rfl) hP hS
  · have hw := hw.2 c50
    refine lv_aload_n hx hb dX2_unitAsItArrives_53 rfl (lv_at hl 0 rfl) ?_
    refine w_gI (C := RX5) (T := TX5) (N := 7) (ci := 5) hx hb hts in5 hown hK hP 1 ht2.1 ht2 rfl (by decide) (hts _ mf_X2_94) dX2_unitAsItArrives_54 ?_
    refine lv_topi (fun x54 ex54 => ?_)
    have hw := hw x54 ex54
    refine lv_if_le (tgt := 84) hx hb dX2_unitAsItArrives_57 (by decide) (fun c57 => ?_) (fun c57 => ?_)
    · have hw := hw.1 c57
      exact tb_X2_unitAsItArrives_84 hx hb hml hown hts hK p1 _ hret  p1 t2 ht2 v4 _ _ _ hw (lv_sub hl [1, 2, 0] rfl) hP hS
    · have hw := hw.2 c57
      refine lv_aload_n hx hb dX2_unitAsItArrives_60 rfl (lv_at hl 1 rfl) ?_
      refine w_gR (C := RX2) (T := TX2) (N := 11) (ci := 2) hx hb hts in2 hown hK hP 1 th2.1 th2 rfl (by decide) (ch2_1 th2).1 (hts _ mf_X2_18) dX2_unitAsItArrives_61 ?_
      refine w_gR (C := RX5) (T := TX5) (N := 7) (ci := 5) hx hb hts in5 hown hK hP 0 (ch2_1 th2).2.1 (ch2_1 th2).2 rfl (by decide) (ch5_0 (ch2_1 th2).2).1 (hts _ mf_X2_85) dX2_unitAsItArrives_64 ?_
      refine lv_aload_n hx hb dX2_unitAsItArrives_67 rfl (lv_at hl 0 rfl) ?_
      refine w_gI (C := RX5) (T := TX5) (N := 7) (ci := 5) hx hb hts in5 hown hK hP 5 ht2.1 ht2 rfl (by decide) (hts _ mf_X2_82) dX2_unitAsItArrives_68 ?_
      refine lv_topi (fun x68 ex68 => ?_)
      have hw := hw x68 ex68
      refine lv_aload_n hx hb dX2_unitAsItArrives_71 rfl (lv_at hl 0 rfl) ?_
      refine w_gI (C := RX5) (T := TX5) (N := 7) (ci := 5) hx hb hts in5 hown hK hP 1 ht2.1 ht2 rfl (by decide) (hts _ mf_X2_94) dX2_unitAsItArrives_72 ?_
      refine lv_topi (fun x72 ex72 => ?_)
      have hw := hw x72 ex72
      obtain ⟨hne, hw⟩ := hw
      refine lv_irem hx hb dX2_unitAsItArrives_75 hne ?_
      refine lv_topi (fun x75 ex75 => ?_)
      have hw := hw x75 ex75
      refine lv_dup2_11 hx hb dX2_unitAsItArrives_76 rfl rfl ?_
      obtain ⟨hi5, hw⟩ := hw
      refine w_ia (N := 17) hx hb hK hP (ch5_0 (ch2_1 th2).2).2.1.1 (ch5_0 (ch2_1 th2).2).2.1 (ch5_0 (ch2_1 th2).2).2.2 hi5 dX2_unitAsItArrives_77 ?_
      refine lv_topi (fun x77 ex77 => ?_)
      have hw := hw x77 ex77
      refine lv_aload_n hx hb dX2_unitAsItArrives_78 rfl (lv_at hl 0 rfl) ?_
      refine w_gI (C := RX5) (T := TX5) (N := 7) (ci := 5) hx hb hts in5 hown hK hP 6 ht2.1 ht2 rfl (by decide) (hts _ mf_X2_72) dX2_unitAsItArrives_79 ?_
      refine lv_topi (fun x79 ex79 => ?_)
      have hw := hw x79 ex79
      refine lv_ixor hx hb dX2_unitAsItArrives_82 ?_
      refine lv_topi (fun x82 ex82 => ?_)
      have hw := hw x82 ex82
      obtain ⟨hi7, hw⟩ := hw
      refine w_is (N := 17) hx hb hK hP hS (ch5_0 (ch2_1 th2).2).2.1.1 (ch5_0 (ch2_1 th2).2).2.1 (ch5_0 (ch2_1 th2).2).2.2 hi7 dX2_unitAsItArrives_83 (fun v6 H locs hv6 hP hz hS => ?_)
      have hw := hw v6 hv6
      exact tb_X2_unitAsItArrives_84 hx hb hml hown hts hK p1 _ hret  p1 t2 ht2 v6 _ _ _ hw (lv_sub hl [1, 2, 0] rfl) hP hS
