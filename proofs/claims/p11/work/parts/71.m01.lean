def b_X10_credit_4 (p1 : Int32) (Q : Int32 → VV → Prop) (fu : Nat) : Int32 → Int32 → Int32 → VV → Prop :=
  Nat.rec (motive := fun _ => Int32 → Int32 → Int32 → VV → Prop) (fun _ _ _ _ => False) (fun _ ih a1 a2 a3 v => vp_in a1 2 ∧ ∀ x10 : Int32, x10 = v 854 (Int32.toNatClampNeg a1) → (x10 ≤ a3 → (a2 ≤ 6 → ∀ x47 : Int32, x47 = 6 - a2 → Q x47 v) ∧ (¬ a2 ≤ 6 → Q 0 v)) ∧ (¬ x10 ≤ a3 → ∀ x22 : Int32, x22 = 64 * a1 → ∀ x24 : Int32, x24 = x22 + a3 → vp_in x24 128 ∧ ∀ x25 : Int32, x25 = v 856 (Int32.toNatClampNeg x24) → ∀ x26 : Int32, x26 = a2 + x25 → ∀ x28 : Int32, x28 = a3 + 1 → ih a1 x26 x28 v)) fu
set_option maxHeartbeats 4000000 in
set_option maxRecDepth 100000 in
theorem tb_X10_credit_4 {p : Program} {l : Launch} {e : Env} {s : State} {m : MethodId} {args : Array Value} {below : List Frame} {meth : Method} {c : Code} {QQ : State → Prop} {dC : Nat → ClassId} {dI : Nat → Nat → Nat} {base : Nat} {cy : Nat → ClassId} (hx : p.tables.exec = Jvm.exec) (hb : c.code = cX10_credit) (hml : c.maxLocals = 4) (hown : s.vm.findClass RX10 = some m.cls) (hts : ∀ w ∈ TB, w.before args s = true) (hK : va_K (dC, dI) vwCl (tyL cy) s) (p1 : Int32) (Q : Int32 → VV → Prop) (hret : ∀ (pc : Nat) (x : Int32) (v : VV) (H : Heap) (locs : List Loc) (ls : Array Slot), decode cX10_credit pc = .ok (.ireturn, 1) → Q x v → va_P (dC, dI) vwCl (Wd base cy rf v 874) H → va_S (fun q => base ≤ q) s.heap H locs → W p l e { frames := 0, cells := 0, slots := 0, locals := 0 } s m args below meth c H locs 0 0 QQ (F0 m pc ls [.int x])) : ∀ (fu : Nat) (a1 : Int32) (a2 : Int32) (a3 : Int32) (v : VV) (H : Heap) (locs : List Loc) (ls : Array Slot), b_X10_credit_4 p1 Q  fu a1 a2 a3 v → lv_has ls 4 [(0, .ref (base + 816)), (1, .int a1), (2, .int a2), (3, .int a3)] → va_P (dC, dI) vwCl (Wd base cy rf v 874) H → va_S (fun q => base ≤ q) s.heap H locs → W p l e { frames := 0, cells := 0, slots := 0, locals := 0 } s m args below meth c H locs 0 0 QQ (F0 m 4 ls []) := by
  intro fu
  induction fu with
  | zero =>
    intro a1 a2 a3 v H locs ls hw hl hP hS
    exact hw.elim
  | succ fu ih =>
    intro a1 a2 a3 v H locs ls hw hl hP hS
    refine lv_iload_n hx hb dX10_credit_4 rfl (lv_at hl 3 rfl) ?_
    refine lv_aload_n hx hb dX10_credit_5 rfl (lv_at hl 0 rfl) ?_
    refine w_gR (C := RX10) (T := TX10) (N := 64) (ci := 10) hx hb hts in10 hown hK hP 38 th10.1 th10 rfl (by decide) (ch10_38 th10).1 (hts _ mf_X10_122) dX10_credit_6 ?_
    refine lv_iload_n hx hb dX10_credit_9 rfl (lv_at hl 1 rfl) ?_
    obtain ⟨hi1, hw⟩ := hw
    refine w_ia (N := 2) hx hb hK hP (ch10_38 th10).2.1.1 (ch10_38 th10).2.1 (ch10_38 th10).2.2 hi1 dX10_credit_10 ?_
    refine lv_topi (fun x10 ex10 => ?_)
    have hw := hw x10 ex10
    refine lv_icmp_ge (tgt := 34) hx hb dX10_credit_11 (by decide) (fun c11 => ?_) (fun c11 => ?_)
    · have hw := hw.1 c11
      refine lv_iload_n hx hb dX10_credit_34 rfl (lv_at hl 2 rfl) ?_
      refine lv_bipush (v := 6) hx hb dX10_credit_35 (by decide) ?_
      refine lv_icmp_le (tgt := 44) hx hb dX10_credit_37 (by decide) (fun c37 => ?_) (fun c37 => ?_)
      · have hw := hw.1 c37
        refine lv_bipush (v := 6) hx hb dX10_credit_44 (by decide) ?_
        refine lv_iload_n hx hb dX10_credit_46 rfl (lv_at hl 2 rfl) ?_
        refine lv_isub hx hb dX10_credit_47 ?_
        refine lv_topi (fun x47 ex47 => ?_)
        have hw := hw x47 ex47
        exact hret _ _ _ _ _ _ dX10_credit_48 hw hP hS
      · have hw := hw.2 c37
        refine lv_iconst (v := 0) hx hb dX10_credit_40 (by decide) ?_
        refine lv_goto (tgt := 48) hx hb dX10_credit_41 (by decide) ?_
        exact hret _ _ _ _ _ _ dX10_credit_48 hw hP hS
    · have hw := hw.2 c11
      refine lv_iload_n hx hb dX10_credit_14 rfl (lv_at hl 2 rfl) ?_
      refine lv_aload_n hx hb dX10_credit_15 rfl (lv_at hl 0 rfl) ?_
      refine w_gR (C := RX10) (T := TX10) (N := 64) (ci := 10) hx hb hts in10 hown hK hP 40 th10.1 th10 rfl (by decide) (ch10_40 th10).1 (hts _ mf_X10_128) dX10_credit_16 ?_
      refine lv_bipush (v := 64) hx hb dX10_credit_19 (by decide) ?_
      refine lv_iload_n hx hb dX10_credit_21 rfl (lv_at hl 1 rfl) ?_
      refine lv_imul hx hb dX10_credit_22 ?_
      refine lv_topi (fun x22 ex22 => ?_)
      have hw := hw x22 ex22
      refine lv_iload_n hx hb dX10_credit_23 rfl (lv_at hl 3 rfl) ?_
      refine lv_iadd hx hb dX10_credit_24 ?_
      refine lv_topi (fun x24 ex24 => ?_)
      have hw := hw x24 ex24
      obtain ⟨hi2, hw⟩ := hw
      refine w_ia (N := 128) hx hb hK hP (ch10_40 th10).2.1.1 (ch10_40 th10).2.1 (ch10_40 th10).2.2 hi2 dX10_credit_25 ?_
      refine lv_topi (fun x25 ex25 => ?_)
      have hw := hw x25 ex25
      refine lv_iadd hx hb dX10_credit_26 ?_
      refine lv_topi (fun x26 ex26 => ?_)
      have hw := hw x26 ex26
      refine lv_istore_n (lv' := [(2, .int x26), (0, .ref (base + 816)), (1, .int a1), (3, .int a3)]) hx hb dX10_credit_27 rfl hl (by decide) rfl (fun ls hl => ?_)
      obtain ⟨x28, ex28⟩ : ∃ y : Int32, y = a3 + 1 := ⟨_, rfl⟩
      have hw := hw x28 ex28
      refine lv_iinc (v := x28) (lv' := [(3, .int x28), (2, .int x26), (0, .ref (base + 816)), (1, .int a1)]) hx hb dX10_credit_28 hl (k := 3) rfl (by rw [ex28]; first | rfl | (rw [show Int32.ofInt (-1) = (-1 : Int32) from by decide])) (by decide) rfl (fun ls hl => ?_)
      refine lv_goto (tgt := 4) hx hb dX10_credit_31 (by decide) ?_
      exact ih a1 x26 x28 v _ _ _ hw (lv_sub hl [2, 3, 1, 0] rfl) hP hS
def w_X10_credit (p1 : Int32) (v : VV) (Q : Int32 → VV → Prop) : Prop :=
  ∃ fu : Nat, b_X10_credit_4 p1 Q  fu p1 0 0 v
set_option maxHeartbeats 4000000 in
set_option maxRecDepth 100000 in
/-- TransportFourModel.credit -/
theorem t_X10_credit (l : Launch) (dC : Nat → ClassId) (dI : Nat → Nat → Nat) (base : Nat) (cy : Nat → ClassId) (p1 : Int32) (v : VV) (Q : Int32 → VV → Prop) (hw : w_X10_credit p1 v Q) : CI l yX10_credit (.code yX10_credit cX10_credit 4 (some .int) :: TB) { frames := 0, cells := 0, slots := 0, locals := 0 } dC dI base cy [.ref (base + 816), .int p1] v Q := by
  refine Met.ofW (cc := cX10_credit) (maxL := 4) (ret := (some .int)) (by decide) rfl ?_
  intro p e s m args below meth c s₁ B hml hv
  obtain ⟨rfl, hP, hK⟩ := hv
  have hx := B.exec
  have hb := B.bytes
  have hr := B.returns
  have hts0 := atoms_spec (ws := (.code yX10_credit cX10_credit 4 (some .int) :: TB)) B.pre
  have hts : ∀ w ∈ TB, w.before ([.ref (base + 816), .int p1]).toArray s = true := fun w h => hts0 w (List.mem_cons_of_mem _ h)
  have hown : s.vm.findClass RX10 = some m.cls := findClass_of_methodNamed B.named
  have hlocks := B.notSynchronized
  have hS : va_S (fun q => base ≤ q) s.heap s.heap [] := va_S.rf
  have hl := lv_entry ([.ref (base + 816), .int p1]) (n := 4) (Nat.le_of_ble_eq_true rfl)
  rw [lg_entry_eq]
  generalize (lg_sl ([.ref (base + 816), .int p1]) ++ List.replicate (4 - (lg_sl ([.ref (base + 816), .int p1])).length) Slot.unset).toArray = ls at hl ⊢
  have hl : lv_has ls 4 [(0, .ref (base + 816)), (1, .int p1)] := hl
  have hret : ∀ (pc : Nat) (x : Int32) (v : VV) (H : Heap) (locs : List Loc) (ls : Array Slot), decode cX10_credit pc = .ok (.ireturn, 1) → Q x v → va_P (dC, dI) vwCl (Wd base cy rf v 874) H → va_S (fun q => base ≤ q) s.heap H locs → W p l e { frames := 0, cells := 0, slots := 0, locals := 0 } s m ([.ref (base + 816), .int p1]).toArray below meth c H locs 0 0 (MQ below (va_Qi Q (Hp dC dI base cy) (fun q => base ≤ q)) ([.ref (base + 816), .int p1]).toArray s 0 0 (fun q => base ≤ q)) (F0 m pc ls [.int x]) := fun pc x v H locs ls hd hq hP hS => W.iret (v := x) hx hb hr (fun t ht hW => ⟨⟨x, v, rfl, hq, by rw [ht]; exact hP, va_K.moved hW.alike hK⟩, hS.F ht⟩) hS.2.2 hd
  refine lv_iconst (v := 0) hx hb dX10_credit_0 (by decide) ?_
  refine lv_istore_n (lv' := [(2, .int 0), (0, .ref (base + 816)), (1, .int p1)]) hx hb dX10_credit_1 rfl hl (by decide) rfl (fun ls hl => ?_)
  refine lv_iconst (v := 0) hx hb dX10_credit_2 (by decide) ?_
  refine lv_istore_n (lv' := [(3, .int 0), (2, .int 0), (0, .ref (base + 816)), (1, .int p1)]) hx hb dX10_credit_3 rfl hl (by decide) rfl (fun ls hl => ?_)
  obtain ⟨fu, hw⟩ := hw
  exact tb_X10_credit_4 hx hb hml hown hts hK p1 _ hret  fu p1 0 0 v _ _ _ hw (lv_sub hl [2, 3, 1, 0] rfl) hP hS
def w_X10_sendReceipt (p1 : Int32) (v : VV) (Q : VV → Prop) : Prop :=
  w_X10_credit p1 v (fun (x6 : Int32) (v1 : VV) => ∀ x9 : Int32, x9 = 96 + x6 → vp_in p1 2 ∧ ∀ x15 : Int32, x15 = v1 846 (Int32.toNatClampNeg p1) → w_X10_sendNumber p1 x9 x15 v1 (fun (v3 : VV) => Q v3))
set_option maxHeartbeats 4000000 in
set_option maxRecDepth 100000 in
/-- TransportFourModel.sendReceipt -/
theorem t_X10_sendReceipt (l : Launch) (dC : Nat → ClassId) (dI : Nat → Nat → Nat) (base : Nat) (cy : Nat → ClassId) (p1 : Int32) (v : VV) (Q : VV → Prop) (hw : w_X10_sendReceipt p1 v Q) : CV l yX10_sendReceipt (.code yX10_sendReceipt cX10_sendReceipt 2 none :: TB) { frames := 3, cells := 0, slots := 0, locals := 67 } dC dI base cy [.ref (base + 816), .int p1] v Q := by
  refine Met.ofW (cc := cX10_sendReceipt) (maxL := 2) (ret := none) (by decide) rfl ?_
  intro p e s m args below meth c s₁ B hml hv
  obtain ⟨rfl, hP, hK⟩ := hv
  have hx := B.exec
  have hb := B.bytes
  have hr := B.returns
  have hts0 := atoms_spec (ws := (.code yX10_sendReceipt cX10_sendReceipt 2 none :: TB)) B.pre
  have hts : ∀ w ∈ TB, w.before ([.ref (base + 816), .int p1]).toArray s = true := fun w h => hts0 w (List.mem_cons_of_mem _ h)
  have hown : s.vm.findClass RX10 = some m.cls := findClass_of_methodNamed B.named
  have hlocks := B.notSynchronized
  have hS : va_S (fun q => base ≤ q) s.heap s.heap [] := va_S.rf
  have hl := lv_entry ([.ref (base + 816), .int p1]) (n := 2) (Nat.le_of_ble_eq_true rfl)
  rw [lg_entry_eq]
  generalize (lg_sl ([.ref (base + 816), .int p1]) ++ List.replicate (2 - (lg_sl ([.ref (base + 816), .int p1])).length) Slot.unset).toArray = ls at hl ⊢
  have hl : lv_has ls 2 [(0, .ref (base + 816)), (1, .int p1)] := hl
  have hret : ∀ (pc : Nat) (v : VV) (H : Heap) (locs : List Loc) (ls : Array Slot), decode cX10_sendReceipt pc = .ok (.return_, 1) → Q v → va_P (dC, dI) vwCl (Wd base cy rf v 874) H → va_S (fun q => base ≤ q) s.heap H locs → W p l e { frames := 3, cells := 0, slots := 0, locals := 67 } s m ([.ref (base + 816), .int p1]).toArray below meth c H locs 0 0 (MQ below (va_Qv Q (Hp dC dI base cy) (fun q => base ≤ q)) ([.ref (base + 816), .int p1]).toArray s 0 0 (fun q => base ≤ q)) (F0 m pc ls []) := fun pc v H locs ls hd hq hP hS => W.vret hx hb hr (fun t ht hW => ⟨⟨v, rfl, hq, by rw [ht]; exact hP, va_K.moved hW.alike hK⟩, hS.F ht⟩) hS.2.2 hd
  refine lv_aload_n hx hb dX10_sendReceipt_0 rfl (lv_at hl 0 rfl) ?_
  refine lv_iload_n hx hb dX10_sendReceipt_1 rfl (lv_at hl 1 rfl) ?_
  refine lv_bipush (v := 96) hx hb dX10_sendReceipt_2 (by decide) ?_
  refine lv_aload_n hx hb dX10_sendReceipt_4 rfl (lv_at hl 0 rfl) ?_
  refine lv_iload_n hx hb dX10_sendReceipt_5 rfl (lv_at hl 1 rfl) ?_
  refine k_I (As := [.int p1]) (rest := [.int 96, .int p1, .ref (base + 816)]) ⟨hx, hb, hml, hown, hts⟩ (t_X10_credit l dC dI base cy p1 v _ hw) (cwV 1 hts (gV ml_X10_214 mi_X10_credit mx_X10_credit mn_X10 mo_X10_credit) rfl rfl rfl (by decide +kernel) ⟨by decide, by decide⟩) hK hP hS th10 (by decide) rfl rfl hl.1 rfl (Nat.le_of_ble_eq_true rfl) dX10_sendReceipt_6 ⟨Nat.zero_le _, Nat.zero_le _⟩ (fun x6 v1 H locs hw hP hS => ?_)
  refine lv_iadd hx hb dX10_sendReceipt_9 ?_
  refine lv_topi (fun x9 ex9 => ?_)
  have hw := hw x9 ex9
  refine lv_aload_n hx hb dX10_sendReceipt_10 rfl (lv_at hl 0 rfl) ?_
  refine w_gR (C := RX10) (T := TX10) (N := 64) (ci := 10) hx hb hts in10 hown hK hP 30 th10.1 th10 rfl (by decide) (ch10_30 th10).1 (hts _ mf_X10_98) dX10_sendReceipt_11 ?_
  refine lv_iload_n hx hb dX10_sendReceipt_14 rfl (lv_at hl 1 rfl) ?_
  obtain ⟨hi2, hw⟩ := hw
  refine w_ia (N := 2) hx hb hK hP (ch10_30 th10).2.1.1 (ch10_30 th10).2.1 (ch10_30 th10).2.2 hi2 dX10_sendReceipt_15 ?_
  refine lv_topi (fun x15 ex15 => ?_)
  have hw := hw x15 ex15
  refine k_V (As := [.int p1, .int x9, .int x15]) (rest := []) ⟨hx, hb, hml, hown, hts⟩ (t_X10_sendNumber l dC dI base cy p1 x9 x15 v1 _ hw) (cwV 3 hts (gV ml_X10_217 mi_X10_sendNumber mx_X10_sendNumber mn_X10 mo_X10_sendNumber) rfl rfl rfl (by decide +kernel) ⟨by decide, by decide⟩) hK hP hS th10 (by decide) rfl rfl hl.1 rfl (Nat.le_of_ble_eq_true rfl) dX10_sendReceipt_16 ⟨Nat.zero_le _, Nat.zero_le _⟩ (fun v3 H locs hw hP hS => ?_)
  exact hret _ _ _ _ _ dX10_sendReceipt_19 hw hP hS
def b_X10_wait_29 (p1 : Int32) (Q : VV → Prop) (fu : Nat) : Int32 → Int32 → VV → Prop :=
  Nat.rec (motive := fun _ => Int32 → Int32 → VV → Prop) (fun _ _ _ => False) (fun _ ih a1 a2 v => ∀ x31 : Int32, x31 = v 816 63 → (x31 ≤ a2 → Q v) ∧ (¬ x31 ≤ a2 → ∀ x44 : Int32, x44 = 20 * a1 → ∀ x46 : Int32, x46 = x44 + a2 → vp_in a2 20 ∧ ∀ x52 : Int32, x52 = v 873 (Int32.toNatClampNeg a2) → vp_in x46 40 ∧ ∀ v2 : VV, v2 = up2 v 828 (Int32.toNatClampNeg x46) x52 → ∀ x54 : Int32, x54 = a2 + 1 → ih a1 x54 v2)) fu
set_option maxHeartbeats 4000000 in
set_option maxRecDepth 100000 in
theorem tb_X10_wait_29 {p : Program} {l : Launch} {e : Env} {s : State} {m : MethodId} {args : Array Value} {below : List Frame} {meth : Method} {c : Code} {QQ : State → Prop} {dC : Nat → ClassId} {dI : Nat → Nat → Nat} {base : Nat} {cy : Nat → ClassId} (hx : p.tables.exec = Jvm.exec) (hb : c.code = cX10_wait) (hml : c.maxLocals = 3) (hown : s.vm.findClass RX10 = some m.cls) (hts : ∀ w ∈ TB, w.before args s = true) (hK : va_K (dC, dI) vwCl (tyL cy) s) (p1 : Int32) (Q : VV → Prop) (hret : ∀ (pc : Nat) (v : VV) (H : Heap) (locs : List Loc) (ls : Array Slot), decode cX10_wait pc = .ok (.return_, 1) → Q v → va_P (dC, dI) vwCl (Wd base cy rf v 874) H → va_S (fun q => base ≤ q) s.heap H locs → W p l e { frames := 0, cells := 0, slots := 0, locals := 0 } s m args below meth c H locs 0 0 QQ (F0 m pc ls [])) : ∀ (fu : Nat) (a1 : Int32) (a2 : Int32) (v : VV) (H : Heap) (locs : List Loc) (ls : Array Slot), b_X10_wait_29 p1 Q  fu a1 a2 v → lv_has ls 3 [(0, .ref (base + 816)), (1, .int a1), (2, .int a2)] → va_P (dC, dI) vwCl (Wd base cy rf v 874) H → va_S (fun q => base ≤ q) s.heap H locs → W p l e { frames := 0, cells := 0, slots := 0, locals := 0 } s m args below meth c H locs 0 0 QQ (F0 m 29 ls []) := by
  intro fu
  induction fu with
  | zero =>
    intro a1 a2 v H locs ls hw hl hP hS
    exact hw.elim
  | succ fu ih =>
    intro a1 a2 v H locs ls hw hl hP hS
    refine lv_iload_n hx hb dX10_wait_29 rfl (lv_at hl 2 rfl) ?_
    refine lv_aload_n hx hb dX10_wait_30 rfl (lv_at hl 0 rfl) ?_
    refine w_gI (C := RX10) (T := TX10) (N := 64) (ci := 10) hx hb hts in10 hown hK hP 63 th10.1 th10 rfl (by decide) (hts _ mf_X10_183) dX10_wait_31 ?_
    refine lv_topi (fun x31 ex31 => ?_)
    have hw := hw x31 ex31
    refine lv_icmp_ge (tgt := 60) hx hb dX10_wait_34 (by decide) (fun c34 => ?_) (fun c34 => ?_)
    · have hw := hw.1 c34
      exact hret _ _ _ _ _ dX10_wait_60 hw hP hS
    · have hw := hw.2 c34
      refine lv_aload_n hx hb dX10_wait_37 rfl (lv_at hl 0 rfl) ?_
      refine w_gR (C := RX10) (T := TX10) (N := 64) (ci := 10) hx hb hts in10 hown hK hP 12 th10.1 th10 rfl (by decide) (ch10_12 th10).1 (hts _ mf_X10_44) dX10_wait_38 ?_
      refine lv_bipush (v := 20) hx hb dX10_wait_41 (by decide) ?_
      refine lv_iload_n hx hb dX10_wait_43 rfl (lv_at hl 1 rfl) ?_
      refine lv_imul hx hb dX10_wait_44 ?_
      refine lv_topi (fun x44 ex44 => ?_)
      have hw := hw x44 ex44
      refine lv_iload_n hx hb dX10_wait_45 rfl (lv_at hl 2 rfl) ?_
      refine lv_iadd hx hb dX10_wait_46 ?_
      refine lv_topi (fun x46 ex46 => ?_)
      have hw := hw x46 ex46
      refine lv_aload_n hx hb dX10_wait_47 rfl (lv_at hl 0 rfl) ?_
      refine w_gR (C := RX10) (T := TX10) (N := 64) (ci := 10) hx hb hts in10 hown hK hP 62 th10.1 th10 rfl (by decide) (ch10_62 th10).1 (hts _ mf_X10_180) dX10_wait_48 ?_
      refine lv_iload_n hx hb dX10_wait_51 rfl (lv_at hl 2 rfl) ?_
      obtain ⟨hi1, hw⟩ := hw
      refine w_ia (N := 20) hx hb hK hP (ch10_62 th10).2.1.1 (ch10_62 th10).2.1 (ch10_62 th10).2.2 hi1 dX10_wait_52 ?_
      refine lv_topi (fun x52 ex52 => ?_)
      have hw := hw x52 ex52
      obtain ⟨hi3, hw⟩ := hw
      refine w_is (N := 40) hx hb hK hP hS (ch10_12 th10).2.1.1 (ch10_12 th10).2.1 (ch10_12 th10).2.2 hi3 dX10_wait_53 (fun v2 H locs hv2 hP hz hS => ?_)
      have hw := hw v2 hv2
      obtain ⟨x54, ex54⟩ : ∃ y : Int32, y = a2 + 1 := ⟨_, rfl⟩
      have hw := hw x54 ex54
      refine lv_iinc (v := x54) (lv' := [(2, .int x54), (0, .ref (base + 816)), (1, .int a1)]) hx hb dX10_wait_54 hl (k := 2) rfl (by rw [ex54]; first | rfl | (rw [show Int32.ofInt (-1) = (-1 : Int32) from by decide])) (by decide) rfl (fun ls hl => ?_)
      refine lv_goto (tgt := 29) hx hb dX10_wait_57 (by decide) ?_
      exact ih a1 x54 v2 _ _ _ hw (lv_sub hl [1, 2, 0] rfl) hP hS
def w_X10_wait (p1 : Int32) (v : VV) (Q : VV → Prop) : Prop :=
  vp_in p1 2 ∧ ∀ v1 : VV, v1 = up2 v 825 (Int32.toNatClampNeg p1) 1 → ∀ x13 : Int32, x13 = v1 816 0 → vp_in p1 2 ∧ ∀ v3 : VV, v3 = up2 v1 826 (Int32.toNatClampNeg p1) x13 → ∀ x23 : Int32, x23 = v3 816 63 → vp_in p1 2 ∧ ∀ v5 : VV, v5 = up2 v3 829 (Int32.toNatClampNeg p1) x23 → ∃ fu : Nat, b_X10_wait_29 p1 Q  fu p1 0 v5
set_option maxHeartbeats 4000000 in
set_option maxRecDepth 100000 in
/-- TransportFourModel.wait -/
theorem t_X10_wait (l : Launch) (dC : Nat → ClassId) (dI : Nat → Nat → Nat) (base : Nat) (cy : Nat → ClassId) (p1 : Int32) (v : VV) (Q : VV → Prop) (hw : w_X10_wait p1 v Q) : CV l yX10_wait (.code yX10_wait cX10_wait 3 none :: TB) { frames := 0, cells := 0, slots := 0, locals := 0 } dC dI base cy [.ref (base + 816), .int p1] v Q := by
  refine Met.ofW (cc := cX10_wait) (maxL := 3) (ret := none) (by decide) rfl ?_
  intro p e s m args below meth c s₁ B hml hv
  obtain ⟨rfl, hP, hK⟩ := hv
  have hx := B.exec
  have hb := B.bytes
  have hr := B.returns
  have hts0 := atoms_spec (ws := (.code yX10_wait cX10_wait 3 none :: TB)) B.pre
  have hts : ∀ w ∈ TB, w.before ([.ref (base + 816), .int p1]).toArray s = true := fun w h => hts0 w (List.mem_cons_of_mem _ h)
  have hown : s.vm.findClass RX10 = some m.cls := findClass_of_methodNamed B.named
  have hlocks := B.notSynchronized
  have hS : va_S (fun q => base ≤ q) s.heap s.heap [] := va_S.rf
  have hl := lv_entry ([.ref (base + 816), .int p1]) (n := 3) (Nat.le_of_ble_eq_true rfl)
  rw [lg_entry_eq]
  generalize (lg_sl ([.ref (base + 816), .int p1]) ++ List.replicate (3 - (lg_sl ([.ref (base + 816), .int p1])).length) Slot.unset).toArray = ls at hl ⊢
  have hl : lv_has ls 3 [(0, .ref (base + 816)), (1, .int p1)] := hl
  have hret : ∀ (pc : Nat) (v : VV) (H : Heap) (locs : List Loc) (ls : Array Slot), decode cX10_wait pc = .ok (.return_, 1) → Q v → va_P (dC, dI) vwCl (Wd base cy rf v 874) H → va_S (fun q => base ≤ q) s.heap H locs → W p l e { frames := 0, cells := 0, slots := 0, locals := 0 } s m ([.ref (base + 816), .int p1]).toArray below meth c H locs 0 0 (MQ below (va_Qv Q (Hp dC dI base cy) (fun q => base ≤ q)) ([.ref (base + 816), .int p1]).toArray s 0 0 (fun q => base ≤ q)) (F0 m pc ls []) := fun pc v H locs ls hd hq hP hS => W.vret hx hb hr (fun t ht hW => ⟨⟨v, rfl, hq, by rw [ht]; exact hP, va_K.moved hW.alike hK⟩, hS.F ht⟩) hS.2.2 hd
  refine lv_aload_n hx hb dX10_wait_0 rfl (lv_at hl 0 rfl) ?_
  refine w_gR (C := RX10) (T := TX10) (N := 64) (ci := 10) hx hb hts in10 hown hK hP 9 th10.1 th10 rfl (by decide) (ch10_9 th10).1 (hts _ mf_X10_35) dX10_wait_1 ?_
  refine lv_iload_n hx hb dX10_wait_4 rfl (lv_at hl 1 rfl) ?_
  refine lv_iconst (v := 1) hx hb dX10_wait_5 (by decide) ?_
  obtain ⟨hi2, hw⟩ := hw
  refine w_is (N := 2) hx hb hK hP hS (ch10_9 th10).2.1.1 (ch10_9 th10).2.1 (ch10_9 th10).2.2 hi2 dX10_wait_6 (fun v1 H locs hv1 hP hz hS => ?_)
  have hw := hw v1 hv1
  refine lv_aload_n hx hb dX10_wait_7 rfl (lv_at hl 0 rfl) ?_
  refine w_gR (C := RX10) (T := TX10) (N := 64) (ci := 10) hx hb hts in10 hown hK hP 10 th10.1 th10 rfl (by decide) (ch10_10 th10).1 (hts _ mf_X10_38) dX10_wait_8 ?_
  refine lv_iload_n hx hb dX10_wait_11 rfl (lv_at hl 1 rfl) ?_
  refine lv_aload_n hx hb dX10_wait_12 rfl (lv_at hl 0 rfl) ?_
  refine w_gI (C := RX10) (T := TX10) (N := 64) (ci := 10) hx hb hts in10 hown hK hP 0 th10.1 th10 rfl (by decide) (hts _ mf_X10_198) dX10_wait_13 ?_
  refine lv_topi (fun x13 ex13 => ?_)
  have hw := hw x13 ex13
  obtain ⟨hi4, hw⟩ := hw
  refine w_is (N := 2) hx hb hK hP hS (ch10_10 th10).2.1.1 (ch10_10 th10).2.1 (ch10_10 th10).2.2 hi4 dX10_wait_16 (fun v3 H locs hv3 hP hz hS => ?_)
  have hw := hw v3 hv3
  refine lv_aload_n hx hb dX10_wait_17 rfl (lv_at hl 0 rfl) ?_
  refine w_gR (C := RX10) (T := TX10) (N := 64) (ci := 10) hx hb hts in10 hown hK hP 13 th10.1 th10 rfl (by decide) (ch10_13 th10).1 (hts _ mf_X10_47) dX10_wait_18 ?_
  refine lv_iload_n hx hb dX10_wait_21 rfl (lv_at hl 1 rfl) ?_
  refine lv_aload_n hx hb dX10_wait_22 rfl (lv_at hl 0 rfl) ?_
  refine w_gI (C := RX10) (T := TX10) (N := 64) (ci := 10) hx hb hts in10 hown hK hP 63 th10.1 th10 rfl (by decide) (hts _ mf_X10_183) dX10_wait_23 ?_
  refine lv_topi (fun x23 ex23 => ?_)
  have hw := hw x23 ex23
  obtain ⟨hi6, hw⟩ := hw
  refine w_is (N := 2) hx hb hK hP hS (ch10_13 th10).2.1.1 (ch10_13 th10).2.1 (ch10_13 th10).2.2 hi6 dX10_wait_26 (fun v5 H locs hv5 hP hz hS => ?_)
  have hw := hw v5 hv5
  refine lv_iconst (v := 0) hx hb dX10_wait_27 (by decide) ?_
  refine lv_istore_n (lv' := [(2, .int 0), (0, .ref (base + 816)), (1, .int p1)]) hx hb dX10_wait_28 rfl hl (by decide) rfl (fun ls hl => ?_)
  obtain ⟨fu, hw⟩ := hw
  exact tb_X10_wait_29 hx hb hml hown hts hK p1 _ hret  fu p1 0 v5 _ _ _ hw (lv_sub hl [1, 2, 0] rfl) hP hS
def b_X10_sendPiece_54 (p1 : Int32) (p2 : Int32) (Q : VV → Prop) (fu : Nat) : Int32 → Int32 → Int32 → Int32 → VV → Prop :=
  Nat.rec (motive := fun _ => Int32 → Int32 → Int32 → Int32 → VV → Prop) (fun _ _ _ _ _ => False) (fun _ ih a1 a2 a3 a4 v => vp_in a3 80 ∧ ∀ x61 : Int32, x61 = v 832 (Int32.toNatClampNeg a3) → (x61 ≤ a4 → w_X10_check  v (fun (v2 : VV) => w_X10_sendMade a1 v2 (fun (v3 : VV) => vp_in a3 80 ∧ ∀ x102 : Int32, x102 = v3 835 (Int32.toNatClampNeg a3) → ∀ x104 : Int32, x104 = x102 + 1 → vp_in a3 80 ∧ ∀ v5 : VV, v5 = up2 v3 835 (Int32.toNatClampNeg a3) x104 → ∀ x112 : Int32, x112 = v5 816 0 → vp_in a3 80 ∧ ∀ v7 : VV, v7 = up2 v5 836 (Int32.toNatClampNeg a3) x112 → Q v7))) ∧ (¬ x61 ≤ a4 → ∀ x73 : Int32, x73 = 8 * a3 → ∀ x76 : Int32, x76 = x73 + a4 → vp_in x76 640 ∧ ∀ x77 : Int32, x77 = v 837 (Int32.toNatClampNeg x76) → w_X10_push x77 v (fun (v10 : VV) => ∀ x81 : Int32, x81 = a4 + 1 → ih a1 a2 a3 x81 v10))) fu
set_option maxHeartbeats 4000000 in
set_option maxRecDepth 100000 in
theorem tb_X10_sendPiece_54 {p : Program} {l : Launch} {e : Env} {s : State} {m : MethodId} {args : Array Value} {below : List Frame} {meth : Method} {c : Code} {QQ : State → Prop} {dC : Nat → ClassId} {dI : Nat → Nat → Nat} {base : Nat} {cy : Nat → ClassId} (hx : p.tables.exec = Jvm.exec) (hb : c.code = cX10_sendPiece) (hml : c.maxLocals = 5) (hown : s.vm.findClass RX10 = some m.cls) (hts : ∀ w ∈ TB, w.before args s = true) (hK : va_K (dC, dI) vwCl (tyL cy) s) (p1 : Int32) (p2 : Int32) (Q : VV → Prop) (hret : ∀ (pc : Nat) (v : VV) (H : Heap) (locs : List Loc) (ls : Array Slot), decode cX10_sendPiece pc = .ok (.return_, 1) → Q v → va_P (dC, dI) vwCl (Wd base cy rf v 874) H → va_S (fun q => base ≤ q) s.heap H locs → W p l e { frames := 2, cells := 0, slots := 0, locals := 44 } s m args below meth c H locs 0 0 QQ (F0 m pc ls [])) : ∀ (fu : Nat) (a1 : Int32) (a2 : Int32) (a3 : Int32) (a4 : Int32) (v : VV) (H : Heap) (locs : List Loc) (ls : Array Slot), b_X10_sendPiece_54 p1 p2 Q  fu a1 a2 a3 a4 v → lv_has ls 5 [(0, .ref (base + 816)), (1, .int a1), (2, .int a2), (3, .int a3), (4, .int a4)] → va_P (dC, dI) vwCl (Wd base cy rf v 874) H → va_S (fun q => base ≤ q) s.heap H locs → W p l e { frames := 2, cells := 0, slots := 0, locals := 44 } s m args below meth c H locs 0 0 QQ (F0 m 54 ls []) := by
  intro fu
  induction fu with
  | zero =>
    intro a1 a2 a3 a4 v H locs ls hw hl hP hS
    exact hw.elim
  | succ fu ih =>
    intro a1 a2 a3 a4 v H locs ls hw hl hP hS
    refine lv_iload hx hb dX10_sendPiece_54 (lv_at hl 4 rfl) ?_
    refine lv_aload_n hx hb dX10_sendPiece_56 rfl (lv_at hl 0 rfl) ?_
    refine w_gR (C := RX10) (T := TX10) (N := 64) (ci := 10) hx hb hts in10 hown hK hP 16 th10.1 th10 rfl (by decide) (ch10_16 th10).1 (hts _ mf_X10_56) dX10_sendPiece_57 ?_
    refine lv_iload_n hx hb dX10_sendPiece_60 rfl (lv_at hl 3 rfl) ?_
    obtain ⟨hi1, hw⟩ := hw
    refine w_ia (N := 80) hx hb hK hP (ch10_16 th10).2.1.1 (ch10_16 th10).2.1 (ch10_16 th10).2.2 hi1 dX10_sendPiece_61 ?_
    refine lv_topi (fun x61 ex61 => ?_)
    have hw := hw x61 ex61
    refine lv_icmp_ge (tgt := 87) hx hb dX10_sendPiece_62 (by decide) (fun c62 => ?_) (fun c62 => ?_)
    · have hw := hw.1 c62
      refine lv_aload_n hx hb dX10_sendPiece_87 rfl (lv_at hl 0 rfl) ?_
      refine k_V (As := []) (rest := []) ⟨hx, hb, hml, hown, hts⟩ (t_X10_check l dC dI base cy  v _ hw) (cwV 0 hts (gV ml_X10_208 mi_X10_check mx_X10_check mn_X10 mo_X10_check) rfl rfl rfl (by decide +kernel) ⟨by decide, by decide⟩) hK hP hS th10 (by decide) rfl rfl hl.1 rfl (Nat.le_of_ble_eq_true rfl) dX10_sendPiece_88 ⟨Nat.zero_le _, Nat.zero_le _⟩ (fun v2 H locs hw hP hS => ?_)
      refine lv_aload_n hx hb dX10_sendPiece_91 rfl (lv_at hl 0 rfl) ?_
      refine lv_iload_n hx hb dX10_sendPiece_92 rfl (lv_at hl 1 rfl) ?_
      refine k_V (As := [.int a1]) (rest := []) ⟨hx, hb, hml, hown, hts⟩ (t_X10_sendMade l dC dI base cy a1 v2 _ hw) (cwV 1 hts (gV ml_X10_211 mi_X10_sendMade mx_X10_sendMade mn_X10 mo_X10_sendMade) rfl rfl rfl (by decide +kernel) ⟨by decide, by decide⟩) hK hP hS th10 (by decide) rfl rfl hl.1 rfl (Nat.le_of_ble_eq_true rfl) dX10_sendPiece_93 ⟨Nat.zero_le _, Nat.zero_le _⟩ (fun v3 H locs hw hP hS => ?_)
      refine lv_aload_n hx hb dX10_sendPiece_96 rfl (lv_at hl 0 rfl) ?_
      refine w_gR (C := RX10) (T := TX10) (N := 64) (ci := 10) hx hb hts in10 hown hK hP 19 th10.1 th10 rfl (by decide) (ch10_19 th10).1 (hts _ mf_X10_65) dX10_sendPiece_97 ?_
      refine lv_iload_n hx hb dX10_sendPiece_100 rfl (lv_at hl 3 rfl) ?_
      refine lv_dup2_11 hx hb dX10_sendPiece_101 rfl rfl ?_
      obtain ⟨hi4, hw⟩ := hw
      refine w_ia (N := 80) hx hb hK hP (ch10_19 th10).2.1.1 (ch10_19 th10).2.1 (ch10_19 th10).2.2 hi4 dX10_sendPiece_102 ?_
      refine lv_topi (fun x102 ex102 => ?_)
      have hw := hw x102 ex102
      refine lv_iconst (v := 1) hx hb dX10_sendPiece_103 (by decide) ?_
      refine lv_iadd hx hb dX10_sendPiece_104 ?_
      refine lv_topi (fun x104 ex104 => ?_)
      have hw := hw x104 ex104
      obtain ⟨hi6, hw⟩ := hw
      refine w_is (N := 80) hx hb hK hP hS (ch10_19 th10).2.1.1 (ch10_19 th10).2.1 (ch10_19 th10).2.2 hi6 dX10_sendPiece_105 (fun v5 H locs hv5 hP hz hS => ?_)
      have hw := hw v5 hv5
      refine lv_aload_n hx hb dX10_sendPiece_106 rfl (lv_at hl 0 rfl) ?_
      refine w_gR (C := RX10) (T := TX10) (N := 64) (ci := 10) hx hb hts in10 hown hK hP 20 th10.1 th10 rfl (by decide) (ch10_20 th10).1 (hts _ mf_X10_68) dX10_sendPiece_107 ?_
      refine lv_iload_n hx hb dX10_sendPiece_110 rfl (lv_at hl 3 rfl) ?_
      refine lv_aload_n hx hb dX10_sendPiece_111 rfl (lv_at hl 0 rfl) ?_
      refine w_gI (C := RX10) (T := TX10) (N := 64) (ci := 10) hx hb hts in10 hown hK hP 0 th10.1 th10 rfl (by decide) (hts _ mf_X10_198) dX10_sendPiece_112 ?_
      refine lv_topi (fun x112 ex112 => ?_)
      have hw := hw x112 ex112
      obtain ⟨hi8, hw⟩ := hw
      refine w_is (N := 80) hx hb hK hP hS (ch10_20 th10).2.1.1 (ch10_20 th10).2.1 (ch10_20 th10).2.2 hi8 dX10_sendPiece_115 (fun v7 H locs hv7 hP hz hS => ?_)
      have hw := hw v7 hv7
      exact hret _ _ _ _ _ dX10_sendPiece_116 hw hP hS
    · have hw := hw.2 c62
      refine lv_aload_n hx hb dX10_sendPiece_65 rfl (lv_at hl 0 rfl) ?_
      refine lv_aload_n hx hb dX10_sendPiece_66 rfl (lv_at hl 0 rfl) ?_
      refine w_gR (C := RX10) (T := TX10) (N := 64) (ci := 10) hx hb hts in10 hown hK hP 21 th10.1 th10 rfl (by decide) (ch10_21 th10).1 (hts _ mf_X10_71) dX10_sendPiece_67 ?_
      refine lv_bipush (v := 8) hx hb dX10_sendPiece_70 (by decide) ?_
      refine lv_iload_n hx hb dX10_sendPiece_72 rfl (lv_at hl 3 rfl) ?_
      refine lv_imul hx hb dX10_sendPiece_73 ?_
      refine lv_topi (fun x73 ex73 => ?_)
      have hw := hw x73 ex73
      refine lv_iload hx hb dX10_sendPiece_74 (lv_at hl 4 rfl) ?_
      refine lv_iadd hx hb dX10_sendPiece_76 ?_
      refine lv_topi (fun x76 ex76 => ?_)
      have hw := hw x76 ex76
      obtain ⟨hi9, hw⟩ := hw
      refine w_ia (N := 640) hx hb hK hP (ch10_21 th10).2.1.1 (ch10_21 th10).2.1 (ch10_21 th10).2.2 hi9 dX10_sendPiece_77 ?_
      refine lv_topi (fun x77 ex77 => ?_)
      have hw := hw x77 ex77
      refine k_V (As := [.int x77]) (rest := []) ⟨hx, hb, hml, hown, hts⟩ (t_X10_push l dC dI base cy x77 v _ hw) (cwV 1 hts (gV ml_X10_187 mi_X10_push mx_X10_push mn_X10 mo_X10_push) rfl rfl rfl (by decide +kernel) ⟨by decide, by decide⟩) hK hP hS th10 (by decide) rfl rfl hl.1 rfl (Nat.le_of_ble_eq_true rfl) dX10_sendPiece_78 ⟨Nat.zero_le _, Nat.zero_le _⟩ (fun v10 H locs hw hP hS => ?_)
      obtain ⟨x81, ex81⟩ : ∃ y : Int32, y = a4 + 1 := ⟨_, rfl⟩
      have hw := hw x81 ex81
      refine lv_iinc (v := x81) (lv' := [(4, .int x81), (0, .ref (base + 816)), (1, .int a1), (2, .int a2), (3, .int a3)]) hx hb dX10_sendPiece_81 hl (k := 4) rfl (by rw [ex81]; first | rfl | (rw [show Int32.ofInt (-1) = (-1 : Int32) from by decide])) (by decide) rfl (fun ls hl => ?_)
      refine lv_goto (tgt := 54) hx hb dX10_sendPiece_84 (by decide) ?_
      exact ih a1 a2 a3 x81 v10 _ _ _ hw (lv_sub hl [1, 2, 3, 4, 0] rfl) hP hS
def b_X10_sendPiece_43 (p1 : Int32) (p2 : Int32) (Q : VV → Prop) (a1 : Int32) (a2 : Int32) (a3 : Int32) (s0 : Int32) (s1 : Int32) (v : VV) : Prop :=
  ∀ x43 : Int32, x43 = s1 + s0 → w_X10_push x43 v (fun (v1 : VV) => w_X10_endHead  v1 (fun (v2 : VV) => ∃ fu : Nat, b_X10_sendPiece_54 p1 p2 Q  fu a1 a2 a3 0 v2))
set_option maxHeartbeats 4000000 in
set_option maxRecDepth 100000 in
theorem tb_X10_sendPiece_43 {p : Program} {l : Launch} {e : Env} {s : State} {m : MethodId} {args : Array Value} {below : List Frame} {meth : Method} {c : Code} {QQ : State → Prop} {dC : Nat → ClassId} {dI : Nat → Nat → Nat} {base : Nat} {cy : Nat → ClassId} (hx : p.tables.exec = Jvm.exec) (hb : c.code = cX10_sendPiece) (hml : c.maxLocals = 5) (hown : s.vm.findClass RX10 = some m.cls) (hts : ∀ w ∈ TB, w.before args s = true) (hK : va_K (dC, dI) vwCl (tyL cy) s) (p1 : Int32) (p2 : Int32) (Q : VV → Prop) (hret : ∀ (pc : Nat) (v : VV) (H : Heap) (locs : List Loc) (ls : Array Slot), decode cX10_sendPiece pc = .ok (.return_, 1) → Q v → va_P (dC, dI) vwCl (Wd base cy rf v 874) H → va_S (fun q => base ≤ q) s.heap H locs → W p l e { frames := 2, cells := 0, slots := 0, locals := 44 } s m args below meth c H locs 0 0 QQ (F0 m pc ls [])) (a1 : Int32) (a2 : Int32) (a3 : Int32) (s0 : Int32) (s1 : Int32) (v : VV) (H : Heap) (locs : List Loc) (ls : Array Slot) (hw : b_X10_sendPiece_43 p1 p2 Q  a1 a2 a3 s0 s1 v) : lv_has ls 5 [(0, .ref (base + 816)), (1, .int a1), (2, .int a2), (3, .int a3)] → va_P (dC, dI) vwCl (Wd base cy rf v 874) H → va_S (fun q => base ≤ q) s.heap H locs → W p l e { frames := 2, cells := 0, slots := 0, locals := 44 } s m args below meth c H locs 0 0 QQ (F0 m 43 ls [.int s0, .int s1, .ref (base + 816)]) := by
  intro hl hP hS
  refine lv_iadd hx hb dX10_sendPiece_43 ?_
  refine lv_topi (fun x43 ex43 => ?_)
  have hw := hw x43 ex43
  refine k_V (As := [.int x43]) (rest := []) ⟨hx, hb, hml, hown, hts⟩ (t_X10_push l dC dI base cy x43 v _ hw) (cwV 1 hts (gV ml_X10_187 mi_X10_push mx_X10_push mn_X10 mo_X10_push) rfl rfl rfl (by decide +kernel) ⟨by decide, by decide⟩) hK hP hS th10 (by decide) rfl rfl hl.1 rfl (Nat.le_of_ble_eq_true rfl) dX10_sendPiece_44 ⟨Nat.zero_le _, Nat.zero_le _⟩ (fun v1 H locs hw hP hS => ?_)
  refine lv_aload_n hx hb dX10_sendPiece_47 rfl (lv_at hl 0 rfl) ?_
  refine k_V (As := []) (rest := []) ⟨hx, hb, hml, hown, hts⟩ (t_X10_endHead l dC dI base cy  v1 _ hw) (cwV 0 hts (gV ml_X10_205 mi_X10_endHead mx_X10_endHead mn_X10 mo_X10_endHead) rfl rfl rfl (by decide +kernel) ⟨by decide, by decide⟩) hK hP hS th10 (by decide) rfl rfl hl.1 rfl (Nat.le_of_ble_eq_true rfl) dX10_sendPiece_48 ⟨Nat.zero_le _, Nat.zero_le _⟩ (fun v2 H locs hw hP hS => ?_)
  refine lv_iconst (v := 0) hx hb dX10_sendPiece_51 (by decide) ?_
  refine lv_istore (lv' := [(4, .int 0), (0, .ref (base + 816)), (1, .int a1), (2, .int a2), (3, .int a3)]) hx hb dX10_sendPiece_52 hl (by decide) rfl (fun ls hl => ?_)
  obtain ⟨fu, hw⟩ := hw
  exact tb_X10_sendPiece_54 hx hb hml hown hts hK p1 p2 _ hret  fu a1 a2 a3 0 v2 _ _ _ hw (lv_sub hl [1, 2, 3, 4, 0] rfl) hP hS
def w_X10_sendPiece (p1 : Int32) (p2 : Int32) (v : VV) (Q : VV → Prop) : Prop :=
  ∀ x3 : Int32, x3 = 40 * p1 → ∀ x5 : Int32, x5 = x3 + p2 → vp_in p1 2 ∧ ∀ x16 : Int32, x16 = v 819 (Int32.toNatClampNeg p1) → w_X10_begin 240 x16 v (fun (v2 : VV) => vp_in x5 80 ∧ ∀ x26 : Int32, x26 = v2 834 (Int32.toNatClampNeg x5) → vp_in x5 80 ∧ ∀ x32 : Int32, x32 = v2 833 (Int32.toNatClampNeg x5) → (x32 = 0 → b_X10_sendPiece_43 p1 p2 Q  p1 p2 x5 0 x26 v2) ∧ (¬ x32 = 0 → b_X10_sendPiece_43 p1 p2 Q  p1 p2 x5 128 x26 v2))
set_option maxHeartbeats 4000000 in
set_option maxRecDepth 100000 in
/-- TransportFourModel.sendPiece -/
theorem t_X10_sendPiece (l : Launch) (dC : Nat → ClassId) (dI : Nat → Nat → Nat) (base : Nat) (cy : Nat → ClassId) (p1 : Int32) (p2 : Int32) (v : VV) (Q : VV → Prop) (hw : w_X10_sendPiece p1 p2 v Q) : CV l yX10_sendPiece (.code yX10_sendPiece cX10_sendPiece 5 none :: TB) { frames := 2, cells := 0, slots := 0, locals := 44 } dC dI base cy [.ref (base + 816), .int p1, .int p2] v Q := by
  refine Met.ofW (cc := cX10_sendPiece) (maxL := 5) (ret := none) (by decide) rfl ?_
  intro p e s m args below meth c s₁ B hml hv
  obtain ⟨rfl, hP, hK⟩ := hv
  have hx := B.exec
  have hb := B.bytes
  have hr := B.returns
  have hts0 := atoms_spec (ws := (.code yX10_sendPiece cX10_sendPiece 5 none :: TB)) B.pre
  have hts : ∀ w ∈ TB, w.before ([.ref (base + 816), .int p1, .int p2]).toArray s = true := fun w h => hts0 w (List.mem_cons_of_mem _ h)
  have hown : s.vm.findClass RX10 = some m.cls := findClass_of_methodNamed B.named
  have hlocks := B.notSynchronized
  have hS : va_S (fun q => base ≤ q) s.heap s.heap [] := va_S.rf
  have hl := lv_entry ([.ref (base + 816), .int p1, .int p2]) (n := 5) (Nat.le_of_ble_eq_true rfl)
  rw [lg_entry_eq]
  generalize (lg_sl ([.ref (base + 816), .int p1, .int p2]) ++ List.replicate (5 - (lg_sl ([.ref (base + 816), .int p1, .int p2])).length) Slot.unset).toArray = ls at hl ⊢
  have hl : lv_has ls 5 [(0, .ref (base + 816)), (1, .int p1), (2, .int p2)] := hl
  have hret : ∀ (pc : Nat) (v : VV) (H : Heap) (locs : List Loc) (ls : Array Slot), decode cX10_sendPiece pc = .ok (.return_, 1) → Q v → va_P (dC, dI) vwCl (Wd base cy rf v 874) H → va_S (fun q => base ≤ q) s.heap H locs → W p l e { frames := 2, cells := 0, slots := 0, locals := 44 } s m ([.ref (base + 816), .int p1, .int p2]).toArray below meth c H locs 0 0 (MQ below (va_Qv Q (Hp dC dI base cy) (fun q => base ≤ q)) ([.ref (base + 816), .int p1, .int p2]).toArray s 0 0 (fun q => base ≤ q)) (F0 m pc ls []) := fun pc v H locs ls hd hq hP hS => W.vret hx hb hr (fun t ht hW => ⟨⟨v, rfl, hq, by rw [ht]; exact hP, va_K.moved hW.alike hK⟩, hS.F ht⟩) hS.2.2 hd
  refine lv_bipush (v := 40) hx hb dX10_sendPiece_0 (by decide) ?_
  refine lv_iload_n hx hb dX10_sendPiece_2 rfl (lv_at hl 1 rfl) ?_
  refine lv_imul hx hb dX10_sendPiece_3 ?_
  refine lv_topi (fun x3 ex3 => ?_)
  have hw := hw x3 ex3
  refine lv_iload_n hx hb dX10_sendPiece_4 rfl (lv_at hl 2 rfl) ?_
  refine lv_iadd hx hb dX10_sendPiece_5 ?_
  refine lv_topi (fun x5 ex5 => ?_)
  have hw := hw x5 ex5
  refine lv_istore_n (lv' := [(3, .int x5), (0, .ref (base + 816)), (1, .int p1), (2, .int p2)]) hx hb dX10_sendPiece_6 rfl hl (by decide) rfl (fun ls hl => ?_)
  refine lv_aload_n hx hb dX10_sendPiece_7 rfl (lv_at hl 1 rfl) ?_
  refine lv_sipush (v := 240) hx hb dX10_sendPiece_8 (by decide) ?_
  refine lv_aload_n hx hb dX10_sendPiece_11 rfl (lv_at hl 1 rfl) ?_
  refine w_gR (C := RX10) (T := TX10) (N := 64) (ci := 10) hx hb hts in10 hown hK hP 3 th10.1 th10 rfl (by decide) (ch10_3 th10).1 (hts _ mf_X10_16) dX10_sendPiece_12 ?_
  refine lv_iload_n hx hb dX10_sendPiece_15 rfl (lv_at hl 2 rfl) ?_
  obtain ⟨hi1, hw⟩ := hw
  refine w_ia (N := 2) hx hb hK hP (ch10_3 th10).2.1.1 (ch10_3 th10).2.1 (ch10_3 th10).2.2 hi1 dX10_sendPiece_16 ?_
  refine lv_topi (fun x16 ex16 => ?_)
  have hw := hw x16 ex16
  refine k_V (As := [.int 240, .int x16]) (rest := []) ⟨hx, hb, hml, hown, hts⟩ (t_X10_begin l dC dI base cy 240 x16 v _ hw) (cwV 2 hts (gV ml_X10_201 mi_X10_begin mx_X10_begin mn_X10 mo_X10_begin) rfl rfl rfl (by decide +kernel) ⟨by decide, by decide⟩) hK hP hS th10 (by decide) rfl rfl hl.1 rfl (Nat.le_of_ble_eq_true rfl) dX10_sendPiece_17 ⟨Nat.zero_le _, Nat.zero_le _⟩ (fun v2 H locs hw hP hS => ?_)
  refine lv_aload_n hx hb dX10_sendPiece_20 rfl (lv_at hl 1 rfl) ?_
  refine lv_aload_n hx hb dX10_sendPiece_21 rfl (lv_at hl 1 rfl) ?_
  refine w_gR (C := RX10) (T := TX10) (N := 64) (ci := 10) hx hb hts in10 hown hK hP 18 th10.1 th10 rfl (by decide) (ch10_18 th10).1 (hts _ mf_X10_62) dX10_sendPiece_22 ?_
  refine lv_iload_n hx hb dX10_sendPiece_25 rfl (lv_at hl 0 rfl) ?_
  obtain ⟨hi3, hw⟩ := hw
  refine w_ia (N := 80) hx hb hK hP (ch10_18 th10).2.1.1 (ch10_18 th10).2.1 (ch10_18 th10).2.2 hi3 dX10_sendPiece_26 ?_
  refine lv_topi (fun x26 ex26 => ?_)
  have hw := hw x26 ex26
  refine lv_aload_n hx hb dX10_sendPiece_27 rfl (lv_at hl 1 rfl) ?_
  refine w_gR (C := RX10) (T := TX10) (N := 64) (ci := 10) hx hb hts in10 hown hK hP 17 th10.1 th10 rfl (by decide) (ch10_17 th10).1 (hts _ mf_X10_59) dX10_sendPiece_28 ?_
  refine lv_iload_n hx hb dX10_sendPiece_31 rfl (lv_at hl 0 rfl) ?_
  obtain ⟨hi4, hw⟩ := hw
  refine w_za (N := 80) hx hb hK hP (ch10_17 th10).2.1.1 (ch10_17 th10).2.1 (ch10_17 th10).2.2 hi4 dX10_sendPiece_32 ?_
  refine lv_topi (fun x32 ex32 => ?_)
  have hw := hw x32 ex32
  refine lv_if_eq (tgt := 42) hx hb dX10_sendPiece_33 (by decide) (fun c33 => ?_) (fun c33 => ?_)
  · have hw := hw.1 c33
    refine lv_iconst (v := 0) hx hb dX10_sendPiece_42 (by decide) ?_
    exact tb_X10_sendPiece_43 hx hb hml hown hts hK p1 p2 _ hret  p1 p2 x5 0 x26 v2 _ _ _ hw (lv_sub hl [1, 2, 3, 0] rfl) hP hS
  · have hw := hw.2 c33
    refine lv_sipush (v := 128) hx hb dX10_sendPiece_36 (by decide) ?_
    refine lv_goto (tgt := 43) hx hb dX10_sendPiece_39 (by decide) ?_
    exact tb_X10_sendPiece_43 hx hb hml hown hts hK p1 p2 _ hret  p1 p2 x5 128 x26 v2 _ _ _ hw (lv_sub hl [1, 2, 3, 0] rfl) hP hS
def w_X10_sendUrge (p1 : Int32) (v : VV) (Q : VV → Prop) : Prop :=
  vp_in p1 2 ∧ ∀ x8 : Int32, x8 = v 819 (Int32.toNatClampNeg p1) → w_X10_begin 16 x8 v (fun (v2 : VV) => vp_in p1 2 ∧ ∀ x18 : Int32, x18 = v2 843 (Int32.toNatClampNeg p1) → w_X10_push x18 v2 (fun (v4 : VV) => w_X10_endHead  v4 (fun (v5 : VV) => ∀ x34 : Int32, x34 = 8 * p1 → vp_in x34 16 ∧ ∀ x35 : Int32, x35 = v5 842 (Int32.toNatClampNeg x34) → w_X10_push x35 v5 (fun (v7 : VV) => w_X10_check  v7 (fun (v8 : VV) => w_X10_sendMade p1 v8 (fun (v9 : VV) => vp_in p1 2 ∧ ∀ x54 : Int32, x54 = v9 844 (Int32.toNatClampNeg p1) → ∀ x56 : Int32, x56 = x54 + 1 → vp_in p1 2 ∧ ∀ v11 : VV, v11 = up2 v9 844 (Int32.toNatClampNeg p1) x56 → ∀ x64 : Int32, x64 = v11 816 0 → vp_in p1 2 ∧ ∀ v13 : VV, v13 = up2 v11 845 (Int32.toNatClampNeg p1) x64 → Q v13))))))
set_option maxHeartbeats 4000000 in
set_option maxRecDepth 100000 in
/-- TransportFourModel.sendUrge -/
theorem t_X10_sendUrge (l : Launch) (dC : Nat → ClassId) (dI : Nat → Nat → Nat) (base : Nat) (cy : Nat → ClassId) (p1 : Int32) (v : VV) (Q : VV → Prop) (hw : w_X10_sendUrge p1 v Q) : CV l yX10_sendUrge (.code yX10_sendUrge cX10_sendUrge 2 none :: TB) { frames := 2, cells := 0, slots := 0, locals := 44 } dC dI base cy [.ref (base + 816), .int p1] v Q := by
  refine Met.ofW (cc := cX10_sendUrge) (maxL := 2) (ret := none) (by decide) rfl ?_
  intro p e s m args below meth c s₁ B hml hv
  obtain ⟨rfl, hP, hK⟩ := hv
  have hx := B.exec
  have hb := B.bytes
  have hr := B.returns
  have hts0 := atoms_spec (ws := (.code yX10_sendUrge cX10_sendUrge 2 none :: TB)) B.pre
  have hts : ∀ w ∈ TB, w.before ([.ref (base + 816), .int p1]).toArray s = true := fun w h => hts0 w (List.mem_cons_of_mem _ h)
  have hown : s.vm.findClass RX10 = some m.cls := findClass_of_methodNamed B.named
  have hlocks := B.notSynchronized
  have hS : va_S (fun q => base ≤ q) s.heap s.heap [] := va_S.rf
  have hl := lv_entry ([.ref (base + 816), .int p1]) (n := 2) (Nat.le_of_ble_eq_true rfl)
  rw [lg_entry_eq]
  generalize (lg_sl ([.ref (base + 816), .int p1]) ++ List.replicate (2 - (lg_sl ([.ref (base + 816), .int p1])).length) Slot.unset).toArray = ls at hl ⊢
  have hl : lv_has ls 2 [(0, .ref (base + 816)), (1, .int p1)] := hl
  have hret : ∀ (pc : Nat) (v : VV) (H : Heap) (locs : List Loc) (ls : Array Slot), decode cX10_sendUrge pc = .ok (.return_, 1) → Q v → va_P (dC, dI) vwCl (Wd base cy rf v 874) H → va_S (fun q => base ≤ q) s.heap H locs → W p l e { frames := 2, cells := 0, slots := 0, locals := 44 } s m ([.ref (base + 816), .int p1]).toArray below meth c H locs 0 0 (MQ below (va_Qv Q (Hp dC dI base cy) (fun q => base ≤ q)) ([.ref (base + 816), .int p1]).toArray s 0 0 (fun q => base ≤ q)) (F0 m pc ls []) := fun pc v H locs ls hd hq hP hS => W.vret hx hb hr (fun t ht hW => ⟨⟨v, rfl, hq, by rw [ht]; exact hP, va_K.moved hW.alike hK⟩, hS.F ht⟩) hS.2.2 hd
  refine lv_aload_n hx hb dX10_sendUrge_0 rfl (lv_at hl 0 rfl) ?_
  refine lv_bipush (v := 16) hx hb dX10_sendUrge_1 (by decide) ?_
  refine lv_aload_n hx hb dX10_sendUrge_3 rfl (lv_at hl 0 rfl) ?_
  refine w_gR (C := RX10) (T := TX10) (N := 64) (ci := 10) hx hb hts in10 hown hK hP 3 th10.1 th10 rfl (by decide) (ch10_3 th10).1 (hts _ mf_X10_16) dX10_sendUrge_4 ?_
  refine lv_iload_n hx hb dX10_sendUrge_7 rfl (lv_at hl 1 rfl) ?_
  obtain ⟨hi1, hw⟩ := hw
  refine w_ia (N := 2) hx hb hK hP (ch10_3 th10).2.1.1 (ch10_3 th10).2.1 (ch10_3 th10).2.2 hi1 dX10_sendUrge_8 ?_
  refine lv_topi (fun x8 ex8 => ?_)
  have hw := hw x8 ex8
  refine k_V (As := [.int 16, .int x8]) (rest := []) ⟨hx, hb, hml, hown, hts⟩ (t_X10_begin l dC dI base cy 16 x8 v _ hw) (cwV 2 hts (gV ml_X10_201 mi_X10_begin mx_X10_begin mn_X10 mo_X10_begin) rfl rfl rfl (by decide +kernel) ⟨by decide, by decide⟩) hK hP hS th10 (by decide) rfl rfl hl.1 rfl (Nat.le_of_ble_eq_true rfl) dX10_sendUrge_9 ⟨Nat.zero_le _, Nat.zero_le _⟩ (fun v2 H locs hw hP hS => ?_)
  refine lv_aload_n hx hb dX10_sendUrge_12 rfl (lv_at hl 0 rfl) ?_
  refine lv_aload_n hx hb dX10_sendUrge_13 rfl (lv_at hl 0 rfl) ?_
  refine w_gR (C := RX10) (T := TX10) (N := 64) (ci := 10) hx hb hts in10 hown hK hP 27 th10.1 th10 rfl (by decide) (ch10_27 th10).1 (hts _ mf_X10_89) dX10_sendUrge_14 ?_
  refine lv_iload_n hx hb dX10_sendUrge_17 rfl (lv_at hl 1 rfl) ?_
  obtain ⟨hi3, hw⟩ := hw
  refine w_ia (N := 2) hx hb hK hP (ch10_27 th10).2.1.1 (ch10_27 th10).2.1 (ch10_27 th10).2.2 hi3 dX10_sendUrge_18 ?_
  refine lv_topi (fun x18 ex18 => ?_)
  have hw := hw x18 ex18
  refine k_V (As := [.int x18]) (rest := []) ⟨hx, hb, hml, hown, hts⟩ (t_X10_push l dC dI base cy x18 v2 _ hw) (cwV 1 hts (gV ml_X10_187 mi_X10_push mx_X10_push mn_X10 mo_X10_push) rfl rfl rfl (by decide +kernel) ⟨by decide, by decide⟩) hK hP hS th10 (by decide) rfl rfl hl.1 rfl (Nat.le_of_ble_eq_true rfl) dX10_sendUrge_19 ⟨Nat.zero_le _, Nat.zero_le _⟩ (fun v4 H locs hw hP hS => ?_)
  refine lv_aload_n hx hb dX10_sendUrge_22 rfl (lv_at hl 0 rfl) ?_
  refine k_V (As := []) (rest := []) ⟨hx, hb, hml, hown, hts⟩ (t_X10_endHead l dC dI base cy  v4 _ hw) (cwV 0 hts (gV ml_X10_205 mi_X10_endHead mx_X10_endHead mn_X10 mo_X10_endHead) rfl rfl rfl (by decide +kernel) ⟨by decide, by decide⟩) hK hP hS th10 (by decide) rfl rfl hl.1 rfl (Nat.le_of_ble_eq_true rfl) dX10_sendUrge_23 ⟨Nat.zero_le _, Nat.zero_le _⟩ (fun v5 H locs hw hP hS => ?_)
  refine lv_aload_n hx hb dX10_sendUrge_26 rfl (lv_at hl 0 rfl) ?_
  refine lv_aload_n hx hb dX10_sendUrge_27 rfl (lv_at hl 0 rfl) ?_
  refine w_gR (C := RX10) (T := TX10) (N := 64) (ci := 10) hx hb hts in10 hown hK hP 26 th10.1 th10 rfl (by decide) (ch10_26 th10).1 (hts _ mf_X10_86) dX10_sendUrge_28 ?_
  refine lv_bipush (v := 8) hx hb dX10_sendUrge_31 (by decide) ?_
  refine lv_iload_n hx hb dX10_sendUrge_33 rfl (lv_at hl 1 rfl) ?_
  refine lv_imul hx hb dX10_sendUrge_34 ?_
  refine lv_topi (fun x34 ex34 => ?_)
  have hw := hw x34 ex34
  obtain ⟨hi6, hw⟩ := hw
  refine w_ia (N := 16) hx hb hK hP (ch10_26 th10).2.1.1 (ch10_26 th10).2.1 (ch10_26 th10).2.2 hi6 dX10_sendUrge_35 ?_
  refine lv_topi (fun x35 ex35 => ?_)
  have hw := hw x35 ex35
  refine k_V (As := [.int x35]) (rest := []) ⟨hx, hb, hml, hown, hts⟩ (t_X10_push l dC dI base cy x35 v5 _ hw) (cwV 1 hts (gV ml_X10_187 mi_X10_push mx_X10_push mn_X10 mo_X10_push) rfl rfl rfl (by decide +kernel) ⟨by decide, by decide⟩) hK hP hS th10 (by decide) rfl rfl hl.1 rfl (Nat.le_of_ble_eq_true rfl) dX10_sendUrge_36 ⟨Nat.zero_le _, Nat.zero_le _⟩ (fun v7 H locs hw hP hS => ?_)
  refine lv_aload_n hx hb dX10_sendUrge_39 rfl (lv_at hl 0 rfl) ?_
  refine k_V (As := []) (rest := []) ⟨hx, hb, hml, hown, hts⟩ (t_X10_check l dC dI base cy  v7 _ hw) (cwV 0 hts (gV ml_X10_208 mi_X10_check mx_X10_check mn_X10 mo_X10_check) rfl rfl rfl (by decide +kernel) ⟨by decide, by decide⟩) hK hP hS th10 (by decide) rfl rfl hl.1 rfl (Nat.le_of_ble_eq_true rfl) dX10_sendUrge_40 ⟨Nat.zero_le _, Nat.zero_le _⟩ (fun v8 H locs hw hP hS => ?_)
  refine lv_aload_n hx hb dX10_sendUrge_43 rfl (lv_at hl 0 rfl) ?_
  refine lv_iload_n hx hb dX10_sendUrge_44 rfl (lv_at hl 1 rfl) ?_
  refine k_V (As := [.int p1]) (rest := []) ⟨hx, hb, hml, hown, hts⟩ (t_X10_sendMade l dC dI base cy p1 v8 _ hw) (cwV 1 hts (gV ml_X10_211 mi_X10_sendMade mx_X10_sendMade mn_X10 mo_X10_sendMade) rfl rfl rfl (by decide +kernel) ⟨by decide, by decide⟩) hK hP hS th10 (by decide) rfl rfl hl.1 rfl (Nat.le_of_ble_eq_true rfl) dX10_sendUrge_45 ⟨Nat.zero_le _, Nat.zero_le _⟩ (fun v9 H locs hw hP hS => ?_)
  refine lv_aload_n hx hb dX10_sendUrge_48 rfl (lv_at hl 0 rfl) ?_
  refine w_gR (C := RX10) (T := TX10) (N := 64) (ci := 10) hx hb hts in10 hown hK hP 28 th10.1 th10 rfl (by decide) (ch10_28 th10).1 (hts _ mf_X10_92) dX10_sendUrge_49 ?_
  refine lv_iload_n hx hb dX10_sendUrge_52 rfl (lv_at hl 1 rfl) ?_
  refine lv_dup2_11 hx hb dX10_sendUrge_53 rfl rfl ?_
  obtain ⟨hi10, hw⟩ := hw
  refine w_ia (N := 2) hx hb hK hP (ch10_28 th10).2.1.1 (ch10_28 th10).2.1 (ch10_28 th10).2.2 hi10 dX10_sendUrge_54 ?_
  refine lv_topi (fun x54 ex54 => ?_)
  have hw := hw x54 ex54
  refine lv_iconst (v := 1) hx hb dX10_sendUrge_55 (by decide) ?_
  refine lv_iadd hx hb dX10_sendUrge_56 ?_
  refine lv_topi (fun x56 ex56 => ?_)
  have hw := hw x56 ex56
  obtain ⟨hi12, hw⟩ := hw
  refine w_is (N := 2) hx hb hK hP hS (ch10_28 th10).2.1.1 (ch10_28 th10).2.1 (ch10_28 th10).2.2 hi12 dX10_sendUrge_57 (fun v11 H locs hv11 hP hz hS => ?_)
  have hw := hw v11 hv11
  refine lv_aload_n hx hb dX10_sendUrge_58 rfl (lv_at hl 0 rfl) ?_
  refine w_gR (C := RX10) (T := TX10) (N := 64) (ci := 10) hx hb hts in10 hown hK hP 29 th10.1 th10 rfl (by decide) (ch10_29 th10).1 (hts _ mf_X10_95) dX10_sendUrge_59 ?_
  refine lv_iload_n hx hb dX10_sendUrge_62 rfl (lv_at hl 1 rfl) ?_
  refine lv_aload_n hx hb dX10_sendUrge_63 rfl (lv_at hl 0 rfl) ?_
  refine w_gI (C := RX10) (T := TX10) (N := 64) (ci := 10) hx hb hts in10 hown hK hP 0 th10.1 th10 rfl (by decide) (hts _ mf_X10_198) dX10_sendUrge_64 ?_
  refine lv_topi (fun x64 ex64 => ?_)
  have hw := hw x64 ex64
  obtain ⟨hi14, hw⟩ := hw
  refine w_is (N := 2) hx hb hK hP hS (ch10_29 th10).2.1.1 (ch10_29 th10).2.1 (ch10_29 th10).2.2 hi14 dX10_sendUrge_67 (fun v13 H locs hv13 hP hz hS => ?_)
  have hw := hw v13 hv13
  exact hret _ _ _ _ _ dX10_sendUrge_68 hw hP hS
def b_X10_goOn_124 (p1 : Int32) (Q : VV → Prop) (a1 : Int32) (v : VV) : Prop :=
  vp_in a1 2 ∧ ∀ x129 : Int32, x129 = v 817 (Int32.toNatClampNeg a1) → (¬ x129 = 2 → Q v) ∧ (x129 = 2 → vp_in a1 2 ∧ ∀ x139 : Int32, x139 = v 841 (Int32.toNatClampNeg a1) → (x139 ≤ 0 → Q v) ∧ (¬ x139 ≤ 0 → vp_in a1 2 ∧ ∀ x148 : Int32, x148 = v 844 (Int32.toNatClampNeg a1) → (¬ x148 = 0 → Q v) ∧ (x148 = 0 → w_X10_sendUrge a1 v (fun (v4 : VV) => Q v4))))
set_option maxHeartbeats 4000000 in
set_option maxRecDepth 100000 in
theorem tb_X10_goOn_124 {p : Program} {l : Launch} {e : Env} {s : State} {m : MethodId} {args : Array Value} {below : List Frame} {meth : Method} {c : Code} {QQ : State → Prop} {dC : Nat → ClassId} {dI : Nat → Nat → Nat} {base : Nat} {cy : Nat → ClassId} (hx : p.tables.exec = Jvm.exec) (hb : c.code = cX10_goOn) (hml : c.maxLocals = 3) (hown : s.vm.findClass RX10 = some m.cls) (hts : ∀ w ∈ TB, w.before args s = true) (hK : va_K (dC, dI) vwCl (tyL cy) s) (p1 : Int32) (Q : VV → Prop) (hret : ∀ (pc : Nat) (v : VV) (H : Heap) (locs : List Loc) (ls : Array Slot), decode cX10_goOn pc = .ok (.return_, 1) → Q v → va_P (dC, dI) vwCl (Wd base cy rf v 874) H → va_S (fun q => base ≤ q) s.heap H locs → W p l e { frames := 3, cells := 0, slots := 0, locals := 68 } s m args below meth c H locs 0 0 QQ (F0 m pc ls [])) (a1 : Int32) (v : VV) (H : Heap) (locs : List Loc) (ls : Array Slot) (hw : b_X10_goOn_124 p1 Q  a1 v) : lv_has ls 3 [(0, .ref (base + 816)), (1, .int a1)] → va_P (dC, dI) vwCl (Wd base cy rf v 874) H → va_S (fun q => base ≤ q) s.heap H locs → W p l e { frames := 3, cells := 0, slots := 0, locals := 68 } s m args below meth c H locs 0 0 QQ (F0 m 124 ls []) := by
  intro hl hP hS
  refine lv_aload_n hx hb dX10_goOn_124 rfl (lv_at hl 0 rfl) ?_
  refine w_gR (C := RX10) (T := TX10) (N := 64) (ci := 10) hx hb hts in10 hown hK hP 1 th10.1 th10 rfl (by decide) (ch10_1 th10).1 (hts _ mf_X10_7) dX10_goOn_125 ?_
  refine lv_iload_n hx hb dX10_goOn_128 rfl (lv_at hl 1 rfl) ?_
  obtain ⟨hi1, hw⟩ := hw
  refine w_ia (N := 2) hx hb hK hP (ch10_1 th10).2.1.1 (ch10_1 th10).2.1 (ch10_1 th10).2.2 hi1 dX10_goOn_129 ?_
  refine lv_topi (fun x129 ex129 => ?_)
  have hw := hw x129 ex129
  refine lv_iconst (v := 2) hx hb dX10_goOn_130 (by decide) ?_
  refine lv_icmp_ne (tgt := 157) hx hb dX10_goOn_131 (by decide) (fun c131 => ?_) (fun c131 => ?_)
  · have hw := hw.1 c131
    exact hret _ _ _ _ _ dX10_goOn_157 hw hP hS
  · have hw := hw.2 c131
    refine lv_aload_n hx hb dX10_goOn_134 rfl (lv_at hl 0 rfl) ?_
    refine w_gR (C := RX10) (T := TX10) (N := 64) (ci := 10) hx hb hts in10 hown hK hP 25 th10.1 th10 rfl (by decide) (ch10_25 th10).1 (hts _ mf_X10_83) dX10_goOn_135 ?_
    refine lv_iload_n hx hb dX10_goOn_138 rfl (lv_at hl 1 rfl) ?_
    obtain ⟨hi2, hw⟩ := hw
    refine w_ia (N := 2) hx hb hK hP (ch10_25 th10).2.1.1 (ch10_25 th10).2.1 (ch10_25 th10).2.2 hi2 dX10_goOn_139 ?_
    refine lv_topi (fun x139 ex139 => ?_)
    have hw := hw x139 ex139
    refine lv_if_le (tgt := 157) hx hb dX10_goOn_140 (by decide) (fun c140 => ?_) (fun c140 => ?_)
    · have hw := hw.1 c140
      exact hret _ _ _ _ _ dX10_goOn_157 hw hP hS
    · have hw := hw.2 c140
      refine lv_aload_n hx hb dX10_goOn_143 rfl (lv_at hl 0 rfl) ?_
      refine w_gR (C := RX10) (T := TX10) (N := 64) (ci := 10) hx hb hts in10 hown hK hP 28 th10.1 th10 rfl (by decide) (ch10_28 th10).1 (hts _ mf_X10_92) dX10_goOn_144 ?_
      refine lv_iload_n hx hb dX10_goOn_147 rfl (lv_at hl 1 rfl) ?_
      obtain ⟨hi3, hw⟩ := hw
      refine w_ia (N := 2) hx hb hK hP (ch10_28 th10).2.1.1 (ch10_28 th10).2.1 (ch10_28 th10).2.2 hi3 dX10_goOn_148 ?_
      refine lv_topi (fun x148 ex148 => ?_)
      have hw := hw x148 ex148
      refine lv_if_ne (tgt := 157) hx hb dX10_goOn_149 (by decide) (fun c149 => ?_) (fun c149 => ?_)
      · have hw := hw.1 c149
        exact hret _ _ _ _ _ dX10_goOn_157 hw hP hS
      · have hw := hw.2 c149
        refine lv_aload_n hx hb dX10_goOn_152 rfl (lv_at hl 0 rfl) ?_
        refine lv_iload_n hx hb dX10_goOn_153 rfl (lv_at hl 1 rfl) ?_
        refine k_V (As := [.int a1]) (rest := []) ⟨hx, hb, hml, hown, hts⟩ (t_X10_sendUrge l dC dI base cy a1 v _ hw) (cwV 1 hts (gV ml_X10_227 mi_X10_sendUrge mx_X10_sendUrge mn_X10 mo_X10_sendUrge) rfl rfl rfl (by decide +kernel) ⟨by decide, by decide⟩) hK hP hS th10 (by decide) rfl rfl hl.1 rfl (Nat.le_of_ble_eq_true rfl) dX10_goOn_154 ⟨Nat.zero_le _, Nat.zero_le _⟩ (fun v4 H locs hw hP hS => ?_)
        exact hret _ _ _ _ _ dX10_goOn_157 hw hP hS
def b_X10_goOn_0 (p1 : Int32) (Q : VV → Prop) (fu : Nat) : Int32 → VV → Prop :=
  Nat.rec (motive := fun _ => Int32 → VV → Prop) (fun _ _ => False) (fun _ ih a1 v => vp_in a1 2 ∧ ∀ x5 : Int32, x5 = v 817 (Int32.toNatClampNeg a1) → (¬ x5 = 2 → b_X10_goOn_124 p1 Q  a1 v) ∧ (x5 = 2 → vp_in a1 2 ∧ ∀ x15 : Int32, x15 = v 831 (Int32.toNatClampNeg a1) → vp_in a1 2 ∧ ∀ x21 : Int32, x21 = v 830 (Int32.toNatClampNeg a1) → (x21 ≤ x15 → b_X10_goOn_124 p1 Q  a1 v) ∧ (¬ x21 ≤ x15 → vp_in a1 2 ∧ ∀ x30 : Int32, x30 = v 838 (Int32.toNatClampNeg a1) → vp_in a1 2 ∧ ∀ x36 : Int32, x36 = v 839 (Int32.toNatClampNeg a1) → ∀ x37 : Int32, x37 = x30 - x36 → w_X10_mod x37 v (fun (x38 : Int32) (v6 : VV) => vp_in a1 2 ∧ ∀ x46 : Int32, x46 = v6 840 (Int32.toNatClampNeg a1) → (x46 ≤ x38 → b_X10_goOn_124 p1 Q  a1 v6) ∧ (¬ x46 ≤ x38 → ∀ x53 : Int32, x53 = 40 * a1 → vp_in a1 2 ∧ ∀ x59 : Int32, x59 = v6 831 (Int32.toNatClampNeg a1) → ∀ x60 : Int32, x60 = x53 + x59 → vp_in a1 2 ∧ ∀ x72 : Int32, x72 = v6 838 (Int32.toNatClampNeg a1) → vp_in x60 80 ∧ ∀ v10 : VV, v10 = up2 v6 834 (Int32.toNatClampNeg x60) x72 → vp_in x60 80 ∧ ∀ v12 : VV, v12 = up2 v10 835 (Int32.toNatClampNeg x60) 0 → vp_in a1 2 ∧ ∀ x91 : Int32, x91 = v12 838 (Int32.toNatClampNeg a1) → ∀ x93 : Int32, x93 = x91 + 1 → w_X10_mod x93 v12 (fun (x94 : Int32) (v15 : VV) => vp_in a1 2 ∧ ∀ v16 : VV, v16 = up2 v15 838 (Int32.toNatClampNeg a1) x94 → vp_in a1 2 ∧ ∀ x104 : Int32, x104 = v16 831 (Int32.toNatClampNeg a1) → ∀ x106 : Int32, x106 = x104 + 1 → vp_in a1 2 ∧ ∀ v19 : VV, v19 = up2 v16 831 (Int32.toNatClampNeg a1) x106 → vp_in a1 2 ∧ ∀ x115 : Int32, x115 = v19 831 (Int32.toNatClampNeg a1) → ∀ x117 : Int32, x117 = x115 - 1 → w_X10_sendPiece a1 x117 v19 (fun (v22 : VV) => ih a1 v22))))))) fu
set_option maxHeartbeats 4000000 in
set_option maxRecDepth 100000 in
theorem tb_X10_goOn_0 {p : Program} {l : Launch} {e : Env} {s : State} {m : MethodId} {args : Array Value} {below : List Frame} {meth : Method} {c : Code} {QQ : State → Prop} {dC : Nat → ClassId} {dI : Nat → Nat → Nat} {base : Nat} {cy : Nat → ClassId} (hx : p.tables.exec = Jvm.exec) (hb : c.code = cX10_goOn) (hml : c.maxLocals = 3) (hown : s.vm.findClass RX10 = some m.cls) (hts : ∀ w ∈ TB, w.before args s = true) (hK : va_K (dC, dI) vwCl (tyL cy) s) (p1 : Int32) (Q : VV → Prop) (hret : ∀ (pc : Nat) (v : VV) (H : Heap) (locs : List Loc) (ls : Array Slot), decode cX10_goOn pc = .ok (.return_, 1) → Q v → va_P (dC, dI) vwCl (Wd base cy rf v 874) H → va_S (fun q => base ≤ q) s.heap H locs → W p l e { frames := 3, cells := 0, slots := 0, locals := 68 } s m args below meth c H locs 0 0 QQ (F0 m pc ls [])) : ∀ (fu : Nat) (a1 : Int32) (v : VV) (H : Heap) (locs : List Loc) (ls : Array Slot), b_X10_goOn_0 p1 Q  fu a1 v → lv_has ls 3 [(0, .ref (base + 816)), (1, .int a1)] → va_P (dC, dI) vwCl (Wd base cy rf v 874) H → va_S (fun q => base ≤ q) s.heap H locs → W p l e { frames := 3, cells := 0, slots := 0, locals := 68 } s m args below meth c H locs 0 0 QQ (F0 m 0 ls []) := by
  intro fu
  induction fu with
  | zero =>
    intro a1 v H locs ls hw hl hP hS
    exact hw.elim
  | succ fu ih =>
    intro a1 v H locs ls hw hl hP hS
    refine lv_aload_n hx hb dX10_goOn_0 rfl (lv_at hl 0 rfl) ?_
    refine w_gR (C := RX10) (T := TX10) (N := 64) (ci := 10) hx hb hts in10 hown hK hP 1 th10.1 th10 rfl (by decide) (ch10_1 th10).1 (hts _ mf_X10_7) dX10_goOn_1 ?_
    refine lv_iload_n hx hb dX10_goOn_4 rfl (lv_at hl 1 rfl) ?_
    obtain ⟨hi1, hw⟩ := hw
    refine w_ia (N := 2) hx hb hK hP (ch10_1 th10).2.1.1 (ch10_1 th10).2.1 (ch10_1 th10).2.2 hi1 dX10_goOn_5 ?_
    refine lv_topi (fun x5 ex5 => ?_)
    have hw := hw x5 ex5
    refine lv_iconst (v := 2) hx hb dX10_goOn_6 (by decide) ?_
    refine lv_icmp_ne (tgt := 124) hx hb dX10_goOn_7 (by decide) (fun c7 => ?_) (fun c7 => ?_)
    · have hw := hw.1 c7
      exact tb_X10_goOn_124 hx hb hml hown hts hK p1 _ hret  a1 v _ _ _ hw (lv_sub hl [0, 1] rfl) hP hS
    · have hw := hw.2 c7
      refine lv_aload_n hx hb dX10_goOn_10 rfl (lv_at hl 0 rfl) ?_
      refine w_gR (C := RX10) (T := TX10) (N := 64) (ci := 10) hx hb hts in10 hown hK hP 15 th10.1 th10 rfl (by decide) (ch10_15 th10).1 (hts _ mf_X10_53) dX10_goOn_11 ?_
      refine lv_iload_n hx hb dX10_goOn_14 rfl (lv_at hl 1 rfl) ?_
      obtain ⟨hi2, hw⟩ := hw
      refine w_ia (N := 2) hx hb hK hP (ch10_15 th10).2.1.1 (ch10_15 th10).2.1 (ch10_15 th10).2.2 hi2 dX10_goOn_15 ?_
      refine lv_topi (fun x15 ex15 => ?_)
      have hw := hw x15 ex15
      refine lv_aload_n hx hb dX10_goOn_16 rfl (lv_at hl 0 rfl) ?_
      refine w_gR (C := RX10) (T := TX10) (N := 64) (ci := 10) hx hb hts in10 hown hK hP 14 th10.1 th10 rfl (by decide) (ch10_14 th10).1 (hts _ mf_X10_50) dX10_goOn_17 ?_
      refine lv_iload_n hx hb dX10_goOn_20 rfl (lv_at hl 1 rfl) ?_
      obtain ⟨hi3, hw⟩ := hw
      refine w_ia (N := 2) hx hb hK hP (ch10_14 th10).2.1.1 (ch10_14 th10).2.1 (ch10_14 th10).2.2 hi3 dX10_goOn_21 ?_
      refine lv_topi (fun x21 ex21 => ?_)
      have hw := hw x21 ex21
      refine lv_icmp_ge (tgt := 124) hx hb dX10_goOn_22 (by decide) (fun c22 => ?_) (fun c22 => ?_)
      · have hw := hw.1 c22
        exact tb_X10_goOn_124 hx hb hml hown hts hK p1 _ hret  a1 v _ _ _ hw (lv_sub hl [0, 1] rfl) hP hS
      · have hw := hw.2 c22
        refine lv_aload_n hx hb dX10_goOn_25 rfl (lv_at hl 0 rfl) ?_
        refine w_gR (C := RX10) (T := TX10) (N := 64) (ci := 10) hx hb hts in10 hown hK hP 22 th10.1 th10 rfl (by decide) (ch10_22 th10).1 (hts _ mf_X10_74) dX10_goOn_26 ?_
        refine lv_iload_n hx hb dX10_goOn_29 rfl (lv_at hl 1 rfl) ?_
        obtain ⟨hi4, hw⟩ := hw
        refine w_ia (N := 2) hx hb hK hP (ch10_22 th10).2.1.1 (ch10_22 th10).2.1 (ch10_22 th10).2.2 hi4 dX10_goOn_30 ?_
        refine lv_topi (fun x30 ex30 => ?_)
        have hw := hw x30 ex30
        refine lv_aload_n hx hb dX10_goOn_31 rfl (lv_at hl 0 rfl) ?_
        refine w_gR (C := RX10) (T := TX10) (N := 64) (ci := 10) hx hb hts in10 hown hK hP 23 th10.1 th10 rfl (by decide) (ch10_23 th10).1 (hts _ mf_X10_77) dX10_goOn_32 ?_
        refine lv_iload_n hx hb dX10_goOn_35 rfl (lv_at hl 1 rfl) ?_
        obtain ⟨hi5, hw⟩ := hw
        refine w_ia (N := 2) hx hb hK hP (ch10_23 th10).2.1.1 (ch10_23 th10).2.1 (ch10_23 th10).2.2 hi5 dX10_goOn_36 ?_
        refine lv_topi (fun x36 ex36 => ?_)
        have hw := hw x36 ex36
        refine lv_isub hx hb dX10_goOn_37 ?_
        refine lv_topi (fun x37 ex37 => ?_)
        have hw := hw x37 ex37
        refine kS_I (As := [.int x37]) (rest := []) ⟨hx, hb, hml, hown, hts⟩ (t_X10_mod l dC dI base cy x37 v _ hw) (cwS 1 hts (gS ml_X10_221 mt_X10_mod mn_X10 mo_X10_mod) rfl rfl rfl (by decide +kernel) ⟨by decide, by decide⟩) hK hP hS rfl hl.1 rfl (Nat.le_of_ble_eq_true rfl) dX10_goOn_38 ⟨Nat.zero_le _, Nat.zero_le _⟩ (fun x38 v6 H locs hw hP hS => ?_)
        refine lv_aload_n hx hb dX10_goOn_41 rfl (lv_at hl 0 rfl) ?_
        refine w_gR (C := RX10) (T := TX10) (N := 64) (ci := 10) hx hb hts in10 hown hK hP 24 th10.1 th10 rfl (by decide) (ch10_24 th10).1 (hts _ mf_X10_80) dX10_goOn_42 ?_
        refine lv_iload_n hx hb dX10_goOn_45 rfl (lv_at hl 1 rfl) ?_
        obtain ⟨hi7, hw⟩ := hw
        refine w_ia (N := 2) hx hb hK hP (ch10_24 th10).2.1.1 (ch10_24 th10).2.1 (ch10_24 th10).2.2 hi7 dX10_goOn_46 ?_
        refine lv_topi (fun x46 ex46 => ?_)
        have hw := hw x46 ex46
        refine lv_icmp_ge (tgt := 124) hx hb dX10_goOn_47 (by decide) (fun c47 => ?_) (fun c47 => ?_)
        · have hw := hw.1 c47
          exact tb_X10_goOn_124 hx hb hml hown hts hK p1 _ hret  a1 v6 _ _ _ hw (lv_sub hl [0, 1] rfl) hP hS
        · have hw := hw.2 c47
          refine lv_bipush (v := 40) hx hb dX10_goOn_50 (by decide) ?_
          refine lv_iload_n hx hb dX10_goOn_52 rfl (lv_at hl 1 rfl) ?_
          refine lv_imul hx hb dX10_goOn_53 ?_
          refine lv_topi (fun x53 ex53 => ?_)
          have hw := hw x53 ex53
          refine lv_aload_n hx hb dX10_goOn_54 rfl (lv_at hl 0 rfl) ?_
          refine w_gR (C := RX10) (T := TX10) (N := 64) (ci := 10) hx hb hts in10 hown hK hP 15 th10.1 th10 rfl (by decide) (ch10_15 th10).1 (hts _ mf_X10_53) dX10_goOn_55 ?_
          refine lv_iload_n hx hb dX10_goOn_58 rfl (lv_at hl 1 rfl) ?_
          obtain ⟨hi8, hw⟩ := hw
          refine w_ia (N := 2) hx hb hK hP (ch10_15 th10).2.1.1 (ch10_15 th10).2.1 (ch10_15 th10).2.2 hi8 dX10_goOn_59 ?_
          refine lv_topi (fun x59 ex59 => ?_)
          have hw := hw x59 ex59
          refine lv_iadd hx hb dX10_goOn_60 ?_
          refine lv_topi (fun x60 ex60 => ?_)
          have hw := hw x60 ex60
          refine lv_istore_n (lv' := [(2, .int x60), (0, .ref (base + 816)), (1, .int a1)]) hx hb dX10_goOn_61 rfl hl (by decide) rfl (fun ls hl => ?_)
          refine lv_aload_n hx hb dX10_goOn_62 rfl (lv_at hl 1 rfl) ?_
          refine w_gR (C := RX10) (T := TX10) (N := 64) (ci := 10) hx hb hts in10 hown hK hP 18 th10.1 th10 rfl (by decide) (ch10_18 th10).1 (hts _ mf_X10_62) dX10_goOn_63 ?_
          refine lv_iload_n hx hb dX10_goOn_66 rfl (lv_at hl 0 rfl) ?_
          refine lv_aload_n hx hb dX10_goOn_67 rfl (lv_at hl 1 rfl) ?_
          refine w_gR (C := RX10) (T := TX10) (N := 64) (ci := 10) hx hb hts in10 hown hK hP 22 th10.1 th10 rfl (by decide) (ch10_22 th10).1 (hts _ mf_X10_74) dX10_goOn_68 ?_
          refine lv_iload_n hx hb dX10_goOn_71 rfl (lv_at hl 2 rfl) ?_
          obtain ⟨hi9, hw⟩ := hw
          refine w_ia (N := 2) hx hb hK hP (ch10_22 th10).2.1.1 (ch10_22 th10).2.1 (ch10_22 th10).2.2 hi9 dX10_goOn_72 ?_
          refine lv_topi (fun x72 ex72 => ?_)
          have hw := hw x72 ex72
          obtain ⟨hi11, hw⟩ := hw
          refine w_is (N := 80) hx hb hK hP hS (ch10_18 th10).2.1.1 (ch10_18 th10).2.1 (ch10_18 th10).2.2 hi11 dX10_goOn_73 (fun v10 H locs hv10 hP hz hS => ?_)
          have hw := hw v10 hv10
          refine lv_aload_n hx hb dX10_goOn_74 rfl (lv_at hl 1 rfl) ?_
          refine w_gR (C := RX10) (T := TX10) (N := 64) (ci := 10) hx hb hts in10 hown hK hP 19 th10.1 th10 rfl (by decide) (ch10_19 th10).1 (hts _ mf_X10_65) dX10_goOn_75 ?_
          refine lv_iload_n hx hb dX10_goOn_78 rfl (lv_at hl 0 rfl) ?_
          refine lv_iconst (v := 0) hx hb dX10_goOn_79 (by decide) ?_
          obtain ⟨hi13, hw⟩ := hw
          refine w_is (N := 80) hx hb hK hP hS (ch10_19 th10).2.1.1 (ch10_19 th10).2.1 (ch10_19 th10).2.2 hi13 dX10_goOn_80 (fun v12 H locs hv12 hP hz hS => ?_)
          have hw := hw v12 hv12
          refine lv_aload_n hx hb dX10_goOn_81 rfl (lv_at hl 1 rfl) ?_
          refine w_gR (C := RX10) (T := TX10) (N := 64) (ci := 10) hx hb hts in10 hown hK hP 22 th10.1 th10 rfl (by decide) (ch10_22 th10).1 (hts _ mf_X10_74) dX10_goOn_82 ?_
          refine lv_iload_n hx hb dX10_goOn_85 rfl (lv_at hl 2 rfl) ?_
          refine lv_aload_n hx hb dX10_goOn_86 rfl (lv_at hl 1 rfl) ?_
          refine w_gR (C := RX10) (T := TX10) (N := 64) (ci := 10) hx hb hts in10 hown hK hP 22 th10.1 th10 rfl (by decide) (ch10_22 th10).1 (hts _ mf_X10_74) dX10_goOn_87 ?_
          refine lv_iload_n hx hb dX10_goOn_90 rfl (lv_at hl 2 rfl) ?_
          obtain ⟨hi14, hw⟩ := hw
          refine w_ia (N := 2) hx hb hK hP (ch10_22 th10).2.1.1 (ch10_22 th10).2.1 (ch10_22 th10).2.2 hi14 dX10_goOn_91 ?_
          refine lv_topi (fun x91 ex91 => ?_)
          have hw := hw x91 ex91
          refine lv_iconst (v := 1) hx hb dX10_goOn_92 (by decide) ?_
          refine lv_iadd hx hb dX10_goOn_93 ?_
          refine lv_topi (fun x93 ex93 => ?_)
          have hw := hw x93 ex93
          refine kS_I (As := [.int x93]) (rest := [.int a1, .ref (base + 838)]) ⟨hx, hb, hml, hown, hts⟩ (t_X10_mod l dC dI base cy x93 v12 _ hw) (cwS 1 hts (gS ml_X10_221 mt_X10_mod mn_X10 mo_X10_mod) rfl rfl rfl (by decide +kernel) ⟨by decide, by decide⟩) hK hP hS rfl hl.1 rfl (Nat.le_of_ble_eq_true rfl) dX10_goOn_94 ⟨Nat.zero_le _, Nat.zero_le _⟩ (fun x94 v15 H locs hw hP hS => ?_)
          obtain ⟨hi17, hw⟩ := hw
          refine w_is (N := 2) hx hb hK hP hS (ch10_22 th10).2.1.1 (ch10_22 th10).2.1 (ch10_22 th10).2.2 hi17 dX10_goOn_97 (fun v16 H locs hv16 hP hz hS => ?_)
          have hw := hw v16 hv16
          refine lv_aload_n hx hb dX10_goOn_98 rfl (lv_at hl 1 rfl) ?_
          refine w_gR (C := RX10) (T := TX10) (N := 64) (ci := 10) hx hb hts in10 hown hK hP 15 th10.1 th10 rfl (by decide) (ch10_15 th10).1 (hts _ mf_X10_53) dX10_goOn_99 ?_
          refine lv_iload_n hx hb dX10_goOn_102 rfl (lv_at hl 2 rfl) ?_
          refine lv_dup2_11 hx hb dX10_goOn_103 rfl rfl ?_
          obtain ⟨hi18, hw⟩ := hw
          refine w_ia (N := 2) hx hb hK hP (ch10_15 th10).2.1.1 (ch10_15 th10).2.1 (ch10_15 th10).2.2 hi18 dX10_goOn_104 ?_
          refine lv_topi (fun x104 ex104 => ?_)
          have hw := hw x104 ex104
          refine lv_iconst (v := 1) hx hb dX10_goOn_105 (by decide) ?_
          refine lv_iadd hx hb dX10_goOn_106 ?_
          refine lv_topi (fun x106 ex106 => ?_)
          have hw := hw x106 ex106
          obtain ⟨hi20, hw⟩ := hw
          refine w_is (N := 2) hx hb hK hP hS (ch10_15 th10).2.1.1 (ch10_15 th10).2.1 (ch10_15 th10).2.2 hi20 dX10_goOn_107 (fun v19 H locs hv19 hP hz hS => ?_)
          have hw := hw v19 hv19
          refine lv_aload_n hx hb dX10_goOn_108 rfl (lv_at hl 1 rfl) ?_
          refine lv_iload_n hx hb dX10_goOn_109 rfl (lv_at hl 2 rfl) ?_
          refine lv_aload_n hx hb dX10_goOn_110 rfl (lv_at hl 1 rfl) ?_
          refine w_gR (C := RX10) (T := TX10) (N := 64) (ci := 10) hx hb hts in10 hown hK hP 15 th10.1 th10 rfl (by decide) (ch10_15 th10).1 (hts _ mf_X10_53) dX10_goOn_111 ?_
          refine lv_iload_n hx hb dX10_goOn_114 rfl (lv_at hl 2 rfl) ?_
          obtain ⟨hi21, hw⟩ := hw
          refine w_ia (N := 2) hx hb hK hP (ch10_15 th10).2.1.1 (ch10_15 th10).2.1 (ch10_15 th10).2.2 hi21 dX10_goOn_115 ?_
          refine lv_topi (fun x115 ex115 => ?_)
          have hw := hw x115 ex115
          refine lv_iconst (v := 1) hx hb dX10_goOn_116 (by decide) ?_
          refine lv_isub hx hb dX10_goOn_117 ?_
          refine lv_topi (fun x117 ex117 => ?_)
          have hw := hw x117 ex117
          refine k_V (As := [.int a1, .int x117]) (rest := []) ⟨hx, hb, hml, hown, hts⟩ (t_X10_sendPiece l dC dI base cy a1 x117 v19 _ hw) (cwV 2 hts (gV ml_X10_224 mi_X10_sendPiece mx_X10_sendPiece mn_X10 mo_X10_sendPiece) rfl rfl rfl (by decide +kernel) ⟨by decide, by decide⟩) hK hP hS th10 (by decide) rfl rfl hl.1 rfl (Nat.le_of_ble_eq_true rfl) dX10_goOn_118 ⟨Nat.zero_le _, Nat.zero_le _⟩ (fun v22 H locs hw hP hS => ?_)
          refine lv_goto (tgt := 0) hx hb dX10_goOn_121 (by decide) ?_
          exact ih a1 v22 _ _ _ hw (lv_sub hl [1, 2] rfl) hP hS
def w_X10_goOn (p1 : Int32) (v : VV) (Q : VV → Prop) : Prop :=
  ∃ fu : Nat, b_X10_goOn_0 p1 Q  fu p1 v
set_option maxHeartbeats 4000000 in
set_option maxRecDepth 100000 in
/-- TransportFourModel.goOn -/
theorem t_X10_goOn (l : Launch) (dC : Nat → ClassId) (dI : Nat → Nat → Nat) (base : Nat) (cy : Nat → ClassId) (p1 : Int32) (v : VV) (Q : VV → Prop) (hw : w_X10_goOn p1 v Q) : CV l yX10_goOn (.code yX10_goOn cX10_goOn 3 none :: TB) { frames := 3, cells := 0, slots := 0, locals := 68 } dC dI base cy [.ref (base + 816), .int p1] v Q := by
  refine Met.ofW (cc := cX10_goOn) (maxL := 3) (ret := none) (by decide) rfl ?_
  intro p e s m args below meth c s₁ B hml hv
  obtain ⟨rfl, hP, hK⟩ := hv
  have hx := B.exec
  have hb := B.bytes
  have hr := B.returns
  have hts0 := atoms_spec (ws := (.code yX10_goOn cX10_goOn 3 none :: TB)) B.pre
  have hts : ∀ w ∈ TB, w.before ([.ref (base + 816), .int p1]).toArray s = true := fun w h => hts0 w (List.mem_cons_of_mem _ h)
  have hown : s.vm.findClass RX10 = some m.cls := findClass_of_methodNamed B.named
  have hlocks := B.notSynchronized
  have hS : va_S (fun q => base ≤ q) s.heap s.heap [] := va_S.rf
  have hl := lv_entry ([.ref (base + 816), .int p1]) (n := 3) (Nat.le_of_ble_eq_true rfl)
  rw [lg_entry_eq]
  generalize (lg_sl ([.ref (base + 816), .int p1]) ++ List.replicate (3 - (lg_sl ([.ref (base + 816), .int p1])).length) Slot.unset).toArray = ls at hl ⊢
  have hl : lv_has ls 3 [(0, .ref (base + 816)), (1, .int p1)] := hl
  have hret : ∀ (pc : Nat) (v : VV) (H : Heap) (locs : List Loc) (ls : Array Slot), decode cX10_goOn pc = .ok (.return_, 1) → Q v → va_P (dC, dI) vwCl (Wd base cy rf v 874) H → va_S (fun q => base ≤ q) s.heap H locs → W p l e { frames := 3, cells := 0, slots := 0, locals := 68 } s m ([.ref (base + 816), .int p1]).toArray below meth c H locs 0 0 (MQ below (va_Qv Q (Hp dC dI base cy) (fun q => base ≤ q)) ([.ref (base + 816), .int p1]).toArray s 0 0 (fun q => base ≤ q)) (F0 m pc ls []) := fun pc v H locs ls hd hq hP hS => W.vret hx hb hr (fun t ht hW => ⟨⟨v, rfl, hq, by rw [ht]; exact hP, va_K.moved hW.alike hK⟩, hS.F ht⟩) hS.2.2 hd
  obtain ⟨fu, hw⟩ := hw
  exact tb_X10_goOn_0 hx hb hml hown hts hK p1 _ hret  fu p1 v _ _ _ hw (lv_sub hl [0, 1] rfl) hP hS
