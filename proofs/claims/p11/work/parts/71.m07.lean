def b_X10_arriveUrgent_89 (p1 : Int32) (Q : VV → Prop) (a1 : Int32) (v : VV) : Prop :=
  vp_in a1 2 ∧ ∀ x98 : Int32, x98 = v 847 (Int32.toNatClampNeg a1) → w_X10_sendNumber a1 32 x98 v (fun (v2 : VV) => Q v2)
set_option maxHeartbeats 4000000 in
set_option maxRecDepth 100000 in
theorem tb_X10_arriveUrgent_89 {p : Program} {l : Launch} {e : Env} {s : State} {m : MethodId} {args : Array Value} {below : List Frame} {meth : Method} {c : Code} {QQ : State → Prop} {dC : Nat → ClassId} {dI : Nat → Nat → Nat} {base : Nat} {cy : Nat → ClassId} (hx : p.tables.exec = Jvm.exec) (hb : c.code = cX10_arriveUrgent) (hml : c.maxLocals = 2) (hown : s.vm.findClass RX10 = some m.cls) (hts : ∀ w ∈ TB, w.before args s = true) (hK : va_K (dC, dI) vwCl (tyL cy) s) (p1 : Int32) (Q : VV → Prop) (hret : ∀ (pc : Nat) (v : VV) (H : Heap) (locs : List Loc) (ls : Array Slot), decode cX10_arriveUrgent pc = .ok (.return_, 1) → Q v → va_P (dC, dI) vwCl (Wd base cy rf v 874) H → va_S (fun q => base ≤ q) s.heap H locs → W p l e { frames := 3, cells := 0, slots := 0, locals := 67 } s m args below meth c H locs 0 0 QQ (F0 m pc ls [])) (a1 : Int32) (v : VV) (H : Heap) (locs : List Loc) (ls : Array Slot) (hw : b_X10_arriveUrgent_89 p1 Q  a1 v) : lv_has ls 2 [(0, .ref (base + 816)), (1, .int a1)] → va_P (dC, dI) vwCl (Wd base cy rf v 874) H → va_S (fun q => base ≤ q) s.heap H locs → W p l e { frames := 3, cells := 0, slots := 0, locals := 67 } s m args below meth c H locs 0 0 QQ (F0 m 89 ls []) := by
  intro hl hP hS
  refine lv_aload_n hx hb dX10_arriveUrgent_89 rfl (lv_at hl 0 rfl) ?_
  refine lv_iload_n hx hb dX10_arriveUrgent_90 rfl (lv_at hl 1 rfl) ?_
  refine lv_bipush (v := 32) hx hb dX10_arriveUrgent_91 (by decide) ?_
  refine lv_aload_n hx hb dX10_arriveUrgent_93 rfl (lv_at hl 0 rfl) ?_
  refine w_gR (C := RX10) (T := TX10) (N := 64) (ci := 10) hx hb hts in10 hown hK hP 31 th10.1 th10 rfl (by decide) (ch10_31 th10).1 (hts _ mf_X10_101) dX10_arriveUrgent_94 ?_
  refine lv_iload_n hx hb dX10_arriveUrgent_97 rfl (lv_at hl 1 rfl) ?_
  obtain ⟨hi1, hw⟩ := hw
  refine w_ia (N := 2) hx hb hK hP (ch10_31 th10).2.1.1 (ch10_31 th10).2.1 (ch10_31 th10).2.2 hi1 dX10_arriveUrgent_98 ?_
  refine lv_topi (fun x98 ex98 => ?_)
  have hw := hw x98 ex98
  refine k_V (As := [.int a1, .int 32, .int x98]) (rest := []) ⟨hx, hb, hml, hown, hts⟩ (t_X10_sendNumber l dC dI base cy a1 32 x98 v _ hw) (cwV 3 hts (gV ml_X10_217 mi_X10_sendNumber mx_X10_sendNumber mn_X10 mo_X10_sendNumber) rfl rfl rfl (by decide +kernel) ⟨by decide, by decide⟩) hK hP hS th10 (by decide) rfl rfl hl.1 rfl (Nat.le_of_ble_eq_true rfl) dX10_arriveUrgent_99 ⟨Nat.zero_le _, Nat.zero_le _⟩ (fun v2 H locs hw hP hS => ?_)
  exact hret _ _ _ _ _ dX10_arriveUrgent_102 hw hP hS
def b_X10_arriveUrgent_72 (p1 : Int32) (Q : VV → Prop) (a1 : Int32) (v : VV) : Prop :=
  vp_in a1 2 ∧ ∀ x82 : Int32, x82 = v 847 (Int32.toNatClampNeg a1) → ∀ x84 : Int32, x84 = x82 + 1 → w_X10_mod x84 v (fun (x85 : Int32) (v2 : VV) => vp_in a1 2 ∧ ∀ v3 : VV, v3 = up2 v2 847 (Int32.toNatClampNeg a1) x85 → b_X10_arriveUrgent_89 p1 Q  a1 v3)
set_option maxHeartbeats 4000000 in
set_option maxRecDepth 100000 in
theorem tb_X10_arriveUrgent_72 {p : Program} {l : Launch} {e : Env} {s : State} {m : MethodId} {args : Array Value} {below : List Frame} {meth : Method} {c : Code} {QQ : State → Prop} {dC : Nat → ClassId} {dI : Nat → Nat → Nat} {base : Nat} {cy : Nat → ClassId} (hx : p.tables.exec = Jvm.exec) (hb : c.code = cX10_arriveUrgent) (hml : c.maxLocals = 2) (hown : s.vm.findClass RX10 = some m.cls) (hts : ∀ w ∈ TB, w.before args s = true) (hK : va_K (dC, dI) vwCl (tyL cy) s) (p1 : Int32) (Q : VV → Prop) (hret : ∀ (pc : Nat) (v : VV) (H : Heap) (locs : List Loc) (ls : Array Slot), decode cX10_arriveUrgent pc = .ok (.return_, 1) → Q v → va_P (dC, dI) vwCl (Wd base cy rf v 874) H → va_S (fun q => base ≤ q) s.heap H locs → W p l e { frames := 3, cells := 0, slots := 0, locals := 67 } s m args below meth c H locs 0 0 QQ (F0 m pc ls [])) (a1 : Int32) (v : VV) (H : Heap) (locs : List Loc) (ls : Array Slot) (hw : b_X10_arriveUrgent_72 p1 Q  a1 v) : lv_has ls 2 [(0, .ref (base + 816)), (1, .int a1)] → va_P (dC, dI) vwCl (Wd base cy rf v 874) H → va_S (fun q => base ≤ q) s.heap H locs → W p l e { frames := 3, cells := 0, slots := 0, locals := 67 } s m args below meth c H locs 0 0 QQ (F0 m 72 ls []) := by
  intro hl hP hS
  refine lv_aload_n hx hb dX10_arriveUrgent_72 rfl (lv_at hl 0 rfl) ?_
  refine w_gR (C := RX10) (T := TX10) (N := 64) (ci := 10) hx hb hts in10 hown hK hP 31 th10.1 th10 rfl (by decide) (ch10_31 th10).1 (hts _ mf_X10_101) dX10_arriveUrgent_73 ?_
  refine lv_iload_n hx hb dX10_arriveUrgent_76 rfl (lv_at hl 1 rfl) ?_
  refine lv_aload_n hx hb dX10_arriveUrgent_77 rfl (lv_at hl 0 rfl) ?_
  refine w_gR (C := RX10) (T := TX10) (N := 64) (ci := 10) hx hb hts in10 hown hK hP 31 th10.1 th10 rfl (by decide) (ch10_31 th10).1 (hts _ mf_X10_101) dX10_arriveUrgent_78 ?_
  refine lv_iload_n hx hb dX10_arriveUrgent_81 rfl (lv_at hl 1 rfl) ?_
  obtain ⟨hi1, hw⟩ := hw
  refine w_ia (N := 2) hx hb hK hP (ch10_31 th10).2.1.1 (ch10_31 th10).2.1 (ch10_31 th10).2.2 hi1 dX10_arriveUrgent_82 ?_
  refine lv_topi (fun x82 ex82 => ?_)
  have hw := hw x82 ex82
  refine lv_iconst (v := 1) hx hb dX10_arriveUrgent_83 (by decide) ?_
  refine lv_iadd hx hb dX10_arriveUrgent_84 ?_
  refine lv_topi (fun x84 ex84 => ?_)
  have hw := hw x84 ex84
  refine kS_I (As := [.int x84]) (rest := [.int a1, .ref (base + 847)]) ⟨hx, hb, hml, hown, hts⟩ (t_X10_mod l dC dI base cy x84 v _ hw) (cwS 1 hts (gS ml_X10_221 mt_X10_mod mn_X10 mo_X10_mod) rfl rfl rfl (by decide +kernel) ⟨by decide, by decide⟩) hK hP hS rfl hl.1 rfl (Nat.le_of_ble_eq_true rfl) dX10_arriveUrgent_85 ⟨Nat.zero_le _, Nat.zero_le _⟩ (fun x85 v2 H locs hw hP hS => ?_)
  obtain ⟨hi4, hw⟩ := hw
  refine w_is (N := 2) hx hb hK hP hS (ch10_31 th10).2.1.1 (ch10_31 th10).2.1 (ch10_31 th10).2.2 hi4 dX10_arriveUrgent_88 (fun v3 H locs hv3 hP hz hS => ?_)
  have hw := hw v3 hv3
  exact tb_X10_arriveUrgent_89 hx hb hml hown hts hK p1 _ hret  a1 v3 _ _ _ hw (lv_sub hl [0, 1] rfl) hP hS
def w_X10_arriveUrgent (p1 : Int32) (v : VV) (Q : VV → Prop) : Prop :=
  vp_in p1 2 ∧ ∀ x5 : Int32, x5 = v 817 (Int32.toNatClampNeg p1) → (x5 = 2 → ∀ x16 : Int32, x16 = v 872 (Int32.toNatClampNeg 4) → w_X10_mod x16 v (fun (x17 : Int32) (v2 : VV) => vp_in p1 2 ∧ ∀ x25 : Int32, x25 = v2 847 (Int32.toNatClampNeg p1) → (¬ x17 = x25 → b_X10_arriveUrgent_89 p1 Q  p1 v2) ∧ (x17 = x25 → ∀ x30 : Int32, x30 = v2 816 61 → (x30 ≤ 9 → b_X10_arriveUrgent_72 p1 Q  p1 v2) ∧ (¬ x30 ≤ 9 → ∀ x46 : Int32, x46 = 1024 * p1 → vp_in p1 2 ∧ ∀ x52 : Int32, x52 = v2 861 (Int32.toNatClampNeg p1) → ∀ x53 : Int32, x53 = x46 + x52 → ∀ x60 : Int32, x60 = v2 872 (Int32.toNatClampNeg 9) → vp_in x53 2048 ∧ ∀ v5 : VV, v5 = up2 v2 862 (Int32.toNatClampNeg x53) x60 → vp_in p1 2 ∧ ∀ x68 : Int32, x68 = v5 861 (Int32.toNatClampNeg p1) → ∀ x70 : Int32, x70 = x68 + 1 → vp_in p1 2 ∧ ∀ v8 : VV, v8 = up2 v5 861 (Int32.toNatClampNeg p1) x70 → b_X10_arriveUrgent_72 p1 Q  p1 v8)))) ∧ (¬ x5 = 2 → Q v)
set_option maxHeartbeats 4000000 in
set_option maxRecDepth 100000 in
/-- TransportFourModel.arriveUrgent -/
theorem t_X10_arriveUrgent (l : Launch) (dC : Nat → ClassId) (dI : Nat → Nat → Nat) (base : Nat) (cy : Nat → ClassId) (p1 : Int32) (v : VV) (Q : VV → Prop) (hw : w_X10_arriveUrgent p1 v Q) : CV l yX10_arriveUrgent (.code yX10_arriveUrgent cX10_arriveUrgent 2 none :: TB) { frames := 3, cells := 0, slots := 0, locals := 67 } dC dI base cy [.ref (base + 816), .int p1] v Q := by
  refine Met.ofW (cc := cX10_arriveUrgent) (maxL := 2) (ret := none) (by decide) rfl ?_
  intro p e s m args below meth c s₁ B hml hv
  obtain ⟨rfl, hP, hK⟩ := hv
  have hx := B.exec
  have hb := B.bytes
  have hr := B.returns
  have hts0 := atoms_spec (ws := (.code yX10_arriveUrgent cX10_arriveUrgent 2 none :: TB)) B.pre
  have hts : ∀ w ∈ TB, w.before ([.ref (base + 816), .int p1]).toArray s = true := fun w h => hts0 w (List.mem_cons_of_mem _ h)
  have hown : s.vm.findClass RX10 = some m.cls := findClass_of_methodNamed B.named
  have hlocks := B.notSynchronized
  have hS : va_S (fun q => base ≤ q) s.heap s.heap [] := va_S.rf
  have hl := lv_entry ([.ref (base + 816), .int p1]) (n := 2) (Nat.le_of_ble_eq_true rfl)
  rw [lg_entry_eq]
  generalize (lg_sl ([.ref (base + 816), .int p1]) ++ List.replicate (2 - (lg_sl ([.ref (base + 816), .int p1])).length) Slot.unset).toArray = ls at hl ⊢
  have hl : lv_has ls 2 [(0, .ref (base + 816)), (1, .int p1)] := hl
  have hret : ∀ (pc : Nat) (v : VV) (H : Heap) (locs : List Loc) (ls : Array Slot), decode cX10_arriveUrgent pc = .ok (.return_, 1) → Q v → va_P (dC, dI) vwCl (Wd base cy rf v 874) H → va_S (fun q => base ≤ q) s.heap H locs → W p l e { frames := 3, cells := 0, slots := 0, locals := 67 } s m ([.ref (base + 816), .int p1]).toArray below meth c H locs 0 0 (MQ below (va_Qv Q (Hp dC dI base cy) (fun q => base ≤ q)) ([.ref (base + 816), .int p1]).toArray s 0 0 (fun q => base ≤ q)) (F0 m pc ls []) := fun pc v H locs ls hd hq hP hS => W.vret hx hb hr (fun t ht hW => ⟨⟨v, rfl, hq, by rw [ht]; exact hP, va_K.moved hW.alike hK⟩, hS.F ht⟩) hS.2.2 hd
  refine lv_aload_n hx hb dX10_arriveUrgent_0 rfl (lv_at hl 0 rfl) ?_
  refine w_gR (C := RX10) (T := TX10) (N := 64) (ci := 10) hx hb hts in10 hown hK hP 1 th10.1 th10 rfl (by decide) (ch10_1 th10).1 (hts _ mf_X10_7) dX10_arriveUrgent_1 ?_
  refine lv_iload_n hx hb dX10_arriveUrgent_4 rfl (lv_at hl 1 rfl) ?_
  obtain ⟨hi1, hw⟩ := hw
  refine w_ia (N := 2) hx hb hK hP (ch10_1 th10).2.1.1 (ch10_1 th10).2.1 (ch10_1 th10).2.2 hi1 dX10_arriveUrgent_5 ?_
  refine lv_topi (fun x5 ex5 => ?_)
  have hw := hw x5 ex5
  refine lv_iconst (v := 2) hx hb dX10_arriveUrgent_6 (by decide) ?_
  refine lv_icmp_eq (tgt := 11) hx hb dX10_arriveUrgent_7 (by decide) (fun c7 => ?_) (fun c7 => ?_)
  · have hw := hw.1 c7
    refine lv_aload_n hx hb dX10_arriveUrgent_11 rfl (lv_at hl 0 rfl) ?_
    refine w_gR (C := RX10) (T := TX10) (N := 64) (ci := 10) hx hb hts in10 hown hK hP 60 th10.1 th10 rfl (by decide) (ch10_60 th10).1 (hts _ mf_X10_177) dX10_arriveUrgent_12 ?_
    refine lv_iconst (v := 4) hx hb dX10_arriveUrgent_15 (by decide) ?_
    refine w_ia (N := 20) hx hb hK hP (ch10_60 th10).2.1.1 (ch10_60 th10).2.1 (ch10_60 th10).2.2 (vp_in_nI (n := 4) (by decide) (by decide)) dX10_arriveUrgent_16 ?_
    refine lv_topi (fun x16 ex16 => ?_)
    have hw := hw x16 ex16
    refine kS_I (As := [.int x16]) (rest := []) ⟨hx, hb, hml, hown, hts⟩ (t_X10_mod l dC dI base cy x16 v _ hw) (cwS 1 hts (gS ml_X10_221 mt_X10_mod mn_X10 mo_X10_mod) rfl rfl rfl (by decide +kernel) ⟨by decide, by decide⟩) hK hP hS rfl hl.1 rfl (Nat.le_of_ble_eq_true rfl) dX10_arriveUrgent_17 ⟨Nat.zero_le _, Nat.zero_le _⟩ (fun x17 v2 H locs hw hP hS => ?_)
    refine lv_aload_n hx hb dX10_arriveUrgent_20 rfl (lv_at hl 0 rfl) ?_
    refine w_gR (C := RX10) (T := TX10) (N := 64) (ci := 10) hx hb hts in10 hown hK hP 31 th10.1 th10 rfl (by decide) (ch10_31 th10).1 (hts _ mf_X10_101) dX10_arriveUrgent_21 ?_
    refine lv_iload_n hx hb dX10_arriveUrgent_24 rfl (lv_at hl 1 rfl) ?_
    obtain ⟨hi3, hw⟩ := hw
    refine w_ia (N := 2) hx hb hK hP (ch10_31 th10).2.1.1 (ch10_31 th10).2.1 (ch10_31 th10).2.2 hi3 dX10_arriveUrgent_25 ?_
    refine lv_topi (fun x25 ex25 => ?_)
    have hw := hw x25 ex25
    refine lv_icmp_ne (tgt := 89) hx hb dX10_arriveUrgent_26 (by decide) (fun c26 => ?_) (fun c26 => ?_)
    · have hw := hw.1 c26
      exact tb_X10_arriveUrgent_89 hx hb hml hown hts hK p1 _ hret  p1 v2 _ _ _ hw (lv_sub hl [0, 1] rfl) hP hS
    · have hw := hw.2 c26
      refine lv_aload_n hx hb dX10_arriveUrgent_29 rfl (lv_at hl 0 rfl) ?_
      refine w_gI (C := RX10) (T := TX10) (N := 64) (ci := 10) hx hb hts in10 hown hK hP 61 th10.1 th10 rfl (by decide) (hts _ mf_X10_259) dX10_arriveUrgent_30 ?_
      refine lv_topi (fun x30 ex30 => ?_)
      have hw := hw x30 ex30
      refine lv_bipush (v := 9) hx hb dX10_arriveUrgent_33 (by decide) ?_
      refine lv_icmp_le (tgt := 72) hx hb dX10_arriveUrgent_35 (by decide) (fun c35 => ?_) (fun c35 => ?_)
      · have hw := hw.1 c35
        exact tb_X10_arriveUrgent_72 hx hb hml hown hts hK p1 _ hret  p1 v2 _ _ _ hw (lv_sub hl [0, 1] rfl) hP hS
      · have hw := hw.2 c35
        refine lv_aload_n hx hb dX10_arriveUrgent_38 rfl (lv_at hl 0 rfl) ?_
        refine w_gR (C := RX10) (T := TX10) (N := 64) (ci := 10) hx hb hts in10 hown hK hP 46 th10.1 th10 rfl (by decide) (ch10_46 th10).1 (hts _ mf_X10_146) dX10_arriveUrgent_39 ?_
        refine lv_sipush (v := 1024) hx hb dX10_arriveUrgent_42 (by decide) ?_
        refine lv_iload_n hx hb dX10_arriveUrgent_45 rfl (lv_at hl 1 rfl) ?_
        refine lv_imul hx hb dX10_arriveUrgent_46 ?_
        refine lv_topi (fun x46 ex46 => ?_)
        have hw := hw x46 ex46
        refine lv_aload_n hx hb dX10_arriveUrgent_47 rfl (lv_at hl 0 rfl) ?_
        refine w_gR (C := RX10) (T := TX10) (N := 64) (ci := 10) hx hb hts in10 hown hK hP 45 th10.1 th10 rfl (by decide) (ch10_45 th10).1 (hts _ mf_X10_143) dX10_arriveUrgent_48 ?_
        refine lv_iload_n hx hb dX10_arriveUrgent_51 rfl (lv_at hl 1 rfl) ?_
        obtain ⟨hi4, hw⟩ := hw
        refine w_ia (N := 2) hx hb hK hP (ch10_45 th10).2.1.1 (ch10_45 th10).2.1 (ch10_45 th10).2.2 hi4 dX10_arriveUrgent_52 ?_
        refine lv_topi (fun x52 ex52 => ?_)
        have hw := hw x52 ex52
        refine lv_iadd hx hb dX10_arriveUrgent_53 ?_
        refine lv_topi (fun x53 ex53 => ?_)
        have hw := hw x53 ex53
        refine lv_aload_n hx hb dX10_arriveUrgent_54 rfl (lv_at hl 0 rfl) ?_
        refine w_gR (C := RX10) (T := TX10) (N := 64) (ci := 10) hx hb hts in10 hown hK hP 60 th10.1 th10 rfl (by decide) (ch10_60 th10).1 (hts _ mf_X10_177) dX10_arriveUrgent_55 ?_
        refine lv_bipush (v := 9) hx hb dX10_arriveUrgent_58 (by decide) ?_
        refine w_ia (N := 20) hx hb hK hP (ch10_60 th10).2.1.1 (ch10_60 th10).2.1 (ch10_60 th10).2.2 (vp_in_nI (n := 9) (by decide) (by decide)) dX10_arriveUrgent_60 ?_
        refine lv_topi (fun x60 ex60 => ?_)
        have hw := hw x60 ex60
        obtain ⟨hi6, hw⟩ := hw
        refine w_is (N := 2048) hx hb hK hP hS (ch10_46 th10).2.1.1 (ch10_46 th10).2.1 (ch10_46 th10).2.2 hi6 dX10_arriveUrgent_61 (fun v5 H locs hv5 hP hz hS => ?_)
        have hw := hw v5 hv5
        refine lv_aload_n hx hb dX10_arriveUrgent_62 rfl (lv_at hl 0 rfl) ?_
        refine w_gR (C := RX10) (T := TX10) (N := 64) (ci := 10) hx hb hts in10 hown hK hP 45 th10.1 th10 rfl (by decide) (ch10_45 th10).1 (hts _ mf_X10_143) dX10_arriveUrgent_63 ?_
        refine lv_iload_n hx hb dX10_arriveUrgent_66 rfl (lv_at hl 1 rfl) ?_
        refine lv_dup2_11 hx hb dX10_arriveUrgent_67 rfl rfl ?_
        obtain ⟨hi7, hw⟩ := hw
        refine w_ia (N := 2) hx hb hK hP (ch10_45 th10).2.1.1 (ch10_45 th10).2.1 (ch10_45 th10).2.2 hi7 dX10_arriveUrgent_68 ?_
        refine lv_topi (fun x68 ex68 => ?_)
        have hw := hw x68 ex68
        refine lv_iconst (v := 1) hx hb dX10_arriveUrgent_69 (by decide) ?_
        refine lv_iadd hx hb dX10_arriveUrgent_70 ?_
        refine lv_topi (fun x70 ex70 => ?_)
        have hw := hw x70 ex70
        obtain ⟨hi9, hw⟩ := hw
        refine w_is (N := 2) hx hb hK hP hS (ch10_45 th10).2.1.1 (ch10_45 th10).2.1 (ch10_45 th10).2.2 hi9 dX10_arriveUrgent_71 (fun v8 H locs hv8 hP hz hS => ?_)
        have hw := hw v8 hv8
        exact tb_X10_arriveUrgent_72 hx hb hml hown hts hK p1 _ hret  p1 v8 _ _ _ hw (lv_sub hl [0, 1] rfl) hP hS
  · have hw := hw.2 c7
    exact hret _ _ _ _ _ dX10_arriveUrgent_10 hw hP hS
def b_X10_arriveUrgentReceipt_54 (p1 : Int32) (Q : VV → Prop) (fu : Nat) : Int32 → Int32 → VV → Prop :=
  Nat.rec (motive := fun _ => Int32 → Int32 → VV → Prop) (fun _ _ _ => False) (fun _ ih a1 a2 v => vp_in a1 2 ∧ ∀ x60 : Int32, x60 = v 841 (Int32.toNatClampNeg a1) → (x60 ≤ a2 → vp_in a1 2 ∧ ∀ x100 : Int32, x100 = v 841 (Int32.toNatClampNeg a1) → ∀ x102 : Int32, x102 = x100 - 1 → vp_in a1 2 ∧ ∀ v3 : VV, v3 = up2 v 841 (Int32.toNatClampNeg a1) x102 → vp_in a1 2 ∧ ∀ x114 : Int32, x114 = v3 843 (Int32.toNatClampNeg a1) → ∀ x116 : Int32, x116 = x114 + 1 → w_X10_mod x116 v3 (fun (x117 : Int32) (v6 : VV) => vp_in a1 2 ∧ ∀ v7 : VV, v7 = up2 v6 843 (Int32.toNatClampNeg a1) x117 → vp_in a1 2 ∧ ∀ v9 : VV, v9 = up2 v7 844 (Int32.toNatClampNeg a1) 0 → w_X10_goOn a1 v9 (fun (v11 : VV) => Q v11))) ∧ (¬ x60 ≤ a2 → ∀ x71 : Int32, x71 = 8 * a1 → ∀ x73 : Int32, x73 = x71 + a2 → ∀ x75 : Int32, x75 = x73 - 1 → ∀ x83 : Int32, x83 = 8 * a1 → ∀ x85 : Int32, x85 = x83 + a2 → vp_in x85 16 ∧ ∀ x86 : Int32, x86 = v 842 (Int32.toNatClampNeg x85) → vp_in x75 16 ∧ ∀ v13 : VV, v13 = up2 v 842 (Int32.toNatClampNeg x75) x86 → ∀ x88 : Int32, x88 = a2 + 1 → ih a1 x88 v13)) fu
set_option maxHeartbeats 4000000 in
set_option maxRecDepth 100000 in
theorem tb_X10_arriveUrgentReceipt_54 {p : Program} {l : Launch} {e : Env} {s : State} {m : MethodId} {args : Array Value} {below : List Frame} {meth : Method} {c : Code} {QQ : State → Prop} {dC : Nat → ClassId} {dI : Nat → Nat → Nat} {base : Nat} {cy : Nat → ClassId} (hx : p.tables.exec = Jvm.exec) (hb : c.code = cX10_arriveUrgentReceipt) (hml : c.maxLocals = 3) (hown : s.vm.findClass RX10 = some m.cls) (hts : ∀ w ∈ TB, w.before args s = true) (hK : va_K (dC, dI) vwCl (tyL cy) s) (p1 : Int32) (Q : VV → Prop) (hret : ∀ (pc : Nat) (v : VV) (H : Heap) (locs : List Loc) (ls : Array Slot), decode cX10_arriveUrgentReceipt pc = .ok (.return_, 1) → Q v → va_P (dC, dI) vwCl (Wd base cy rf v 874) H → va_S (fun q => base ≤ q) s.heap H locs → W p l e { frames := 4, cells := 0, slots := 0, locals := 90 } s m args below meth c H locs 0 0 QQ (F0 m pc ls [])) : ∀ (fu : Nat) (a1 : Int32) (a2 : Int32) (v : VV) (H : Heap) (locs : List Loc) (ls : Array Slot), b_X10_arriveUrgentReceipt_54 p1 Q  fu a1 a2 v → lv_has ls 3 [(0, .ref (base + 816)), (1, .int a1), (2, .int a2)] → va_P (dC, dI) vwCl (Wd base cy rf v 874) H → va_S (fun q => base ≤ q) s.heap H locs → W p l e { frames := 4, cells := 0, slots := 0, locals := 90 } s m args below meth c H locs 0 0 QQ (F0 m 54 ls []) := by
  intro fu
  induction fu with
  | zero =>
    intro a1 a2 v H locs ls hw hl hP hS
    exact hw.elim
  | succ fu ih =>
    intro a1 a2 v H locs ls hw hl hP hS
    refine lv_iload_n hx hb dX10_arriveUrgentReceipt_54 rfl (lv_at hl 2 rfl) ?_
    refine lv_aload_n hx hb dX10_arriveUrgentReceipt_55 rfl (lv_at hl 0 rfl) ?_
    refine w_gR (C := RX10) (T := TX10) (N := 64) (ci := 10) hx hb hts in10 hown hK hP 25 th10.1 th10 rfl (by decide) (ch10_25 th10).1 (hts _ mf_X10_83) dX10_arriveUrgentReceipt_56 ?_
    refine lv_iload_n hx hb dX10_arriveUrgentReceipt_59 rfl (lv_at hl 1 rfl) ?_
    obtain ⟨hi1, hw⟩ := hw
    refine w_ia (N := 2) hx hb hK hP (ch10_25 th10).2.1.1 (ch10_25 th10).2.1 (ch10_25 th10).2.2 hi1 dX10_arriveUrgentReceipt_60 ?_
    refine lv_topi (fun x60 ex60 => ?_)
    have hw := hw x60 ex60
    refine lv_icmp_ge (tgt := 94) hx hb dX10_arriveUrgentReceipt_61 (by decide) (fun c61 => ?_) (fun c61 => ?_)
    · have hw := hw.1 c61
      refine lv_aload_n hx hb dX10_arriveUrgentReceipt_94 rfl (lv_at hl 0 rfl) ?_
      refine w_gR (C := RX10) (T := TX10) (N := 64) (ci := 10) hx hb hts in10 hown hK hP 25 th10.1 th10 rfl (by decide) (ch10_25 th10).1 (hts _ mf_X10_83) dX10_arriveUrgentReceipt_95 ?_
      refine lv_iload_n hx hb dX10_arriveUrgentReceipt_98 rfl (lv_at hl 1 rfl) ?_
      refine lv_dup2_11 hx hb dX10_arriveUrgentReceipt_99 rfl rfl ?_
      obtain ⟨hi2, hw⟩ := hw
      refine w_ia (N := 2) hx hb hK hP (ch10_25 th10).2.1.1 (ch10_25 th10).2.1 (ch10_25 th10).2.2 hi2 dX10_arriveUrgentReceipt_100 ?_
      refine lv_topi (fun x100 ex100 => ?_)
      have hw := hw x100 ex100
      refine lv_iconst (v := 1) hx hb dX10_arriveUrgentReceipt_101 (by decide) ?_
      refine lv_isub hx hb dX10_arriveUrgentReceipt_102 ?_
      refine lv_topi (fun x102 ex102 => ?_)
      have hw := hw x102 ex102
      obtain ⟨hi4, hw⟩ := hw
      refine w_is (N := 2) hx hb hK hP hS (ch10_25 th10).2.1.1 (ch10_25 th10).2.1 (ch10_25 th10).2.2 hi4 dX10_arriveUrgentReceipt_103 (fun v3 H locs hv3 hP hz hS => ?_)
      have hw := hw v3 hv3
      refine lv_aload_n hx hb dX10_arriveUrgentReceipt_104 rfl (lv_at hl 0 rfl) ?_
      refine w_gR (C := RX10) (T := TX10) (N := 64) (ci := 10) hx hb hts in10 hown hK hP 27 th10.1 th10 rfl (by decide) (ch10_27 th10).1 (hts _ mf_X10_89) dX10_arriveUrgentReceipt_105 ?_
      refine lv_iload_n hx hb dX10_arriveUrgentReceipt_108 rfl (lv_at hl 1 rfl) ?_
      refine lv_aload_n hx hb dX10_arriveUrgentReceipt_109 rfl (lv_at hl 0 rfl) ?_
      refine w_gR (C := RX10) (T := TX10) (N := 64) (ci := 10) hx hb hts in10 hown hK hP 27 th10.1 th10 rfl (by decide) (ch10_27 th10).1 (hts _ mf_X10_89) dX10_arriveUrgentReceipt_110 ?_
      refine lv_iload_n hx hb dX10_arriveUrgentReceipt_113 rfl (lv_at hl 1 rfl) ?_
      obtain ⟨hi5, hw⟩ := hw
      refine w_ia (N := 2) hx hb hK hP (ch10_27 th10).2.1.1 (ch10_27 th10).2.1 (ch10_27 th10).2.2 hi5 dX10_arriveUrgentReceipt_114 ?_
      refine lv_topi (fun x114 ex114 => ?_)
      have hw := hw x114 ex114
      refine lv_iconst (v := 1) hx hb dX10_arriveUrgentReceipt_115 (by decide) ?_
      refine lv_iadd hx hb dX10_arriveUrgentReceipt_116 ?_
      refine lv_topi (fun x116 ex116 => ?_)
      have hw := hw x116 ex116
      refine kS_I (As := [.int x116]) (rest := [.int a1, .ref (base + 843)]) ⟨hx, hb, hml, hown, hts⟩ (t_X10_mod l dC dI base cy x116 v3 _ hw) (cwS 1 hts (gS ml_X10_221 mt_X10_mod mn_X10 mo_X10_mod) rfl rfl rfl (by decide +kernel) ⟨by decide, by decide⟩) hK hP hS rfl hl.1 rfl (Nat.le_of_ble_eq_true rfl) dX10_arriveUrgentReceipt_117 ⟨Nat.zero_le _, Nat.zero_le _⟩ (fun x117 v6 H locs hw hP hS => ?_)
      obtain ⟨hi8, hw⟩ := hw
      refine w_is (N := 2) hx hb hK hP hS (ch10_27 th10).2.1.1 (ch10_27 th10).2.1 (ch10_27 th10).2.2 hi8 dX10_arriveUrgentReceipt_120 (fun v7 H locs hv7 hP hz hS => ?_)
      have hw := hw v7 hv7
      refine lv_aload_n hx hb dX10_arriveUrgentReceipt_121 rfl (lv_at hl 0 rfl) ?_
      refine w_gR (C := RX10) (T := TX10) (N := 64) (ci := 10) hx hb hts in10 hown hK hP 28 th10.1 th10 rfl (by decide) (ch10_28 th10).1 (hts _ mf_X10_92) dX10_arriveUrgentReceipt_122 ?_
      refine lv_iload_n hx hb dX10_arriveUrgentReceipt_125 rfl (lv_at hl 1 rfl) ?_
      refine lv_iconst (v := 0) hx hb dX10_arriveUrgentReceipt_126 (by decide) ?_
      obtain ⟨hi10, hw⟩ := hw
      refine w_is (N := 2) hx hb hK hP hS (ch10_28 th10).2.1.1 (ch10_28 th10).2.1 (ch10_28 th10).2.2 hi10 dX10_arriveUrgentReceipt_127 (fun v9 H locs hv9 hP hz hS => ?_)
      have hw := hw v9 hv9
      refine lv_aload_n hx hb dX10_arriveUrgentReceipt_128 rfl (lv_at hl 0 rfl) ?_
      refine lv_iload_n hx hb dX10_arriveUrgentReceipt_129 rfl (lv_at hl 1 rfl) ?_
      refine k_V (As := [.int a1]) (rest := []) ⟨hx, hb, hml, hown, hts⟩ (t_X10_goOn l dC dI base cy a1 v9 _ hw) (cwV 1 hts (gV ml_X10_256 mi_X10_goOn mx_X10_goOn mn_X10 mo_X10_goOn) rfl rfl rfl (by decide +kernel) ⟨by decide, by decide⟩) hK hP hS th10 (by decide) rfl rfl hl.1 rfl (Nat.le_of_ble_eq_true rfl) dX10_arriveUrgentReceipt_130 ⟨Nat.zero_le _, Nat.zero_le _⟩ (fun v11 H locs hw hP hS => ?_)
      exact hret _ _ _ _ _ dX10_arriveUrgentReceipt_133 hw hP hS
    · have hw := hw.2 c61
      refine lv_aload_n hx hb dX10_arriveUrgentReceipt_64 rfl (lv_at hl 0 rfl) ?_
      refine w_gR (C := RX10) (T := TX10) (N := 64) (ci := 10) hx hb hts in10 hown hK hP 26 th10.1 th10 rfl (by decide) (ch10_26 th10).1 (hts _ mf_X10_86) dX10_arriveUrgentReceipt_65 ?_
      refine lv_bipush (v := 8) hx hb dX10_arriveUrgentReceipt_68 (by decide) ?_
      refine lv_iload_n hx hb dX10_arriveUrgentReceipt_70 rfl (lv_at hl 1 rfl) ?_
      refine lv_imul hx hb dX10_arriveUrgentReceipt_71 ?_
      refine lv_topi (fun x71 ex71 => ?_)
      have hw := hw x71 ex71
      refine lv_iload_n hx hb dX10_arriveUrgentReceipt_72 rfl (lv_at hl 2 rfl) ?_
      refine lv_iadd hx hb dX10_arriveUrgentReceipt_73 ?_
      refine lv_topi (fun x73 ex73 => ?_)
      have hw := hw x73 ex73
      refine lv_iconst (v := 1) hx hb dX10_arriveUrgentReceipt_74 (by decide) ?_
      refine lv_isub hx hb dX10_arriveUrgentReceipt_75 ?_
      refine lv_topi (fun x75 ex75 => ?_)
      have hw := hw x75 ex75
      refine lv_aload_n hx hb dX10_arriveUrgentReceipt_76 rfl (lv_at hl 0 rfl) ?_
      refine w_gR (C := RX10) (T := TX10) (N := 64) (ci := 10) hx hb hts in10 hown hK hP 26 th10.1 th10 rfl (by decide) (ch10_26 th10).1 (hts _ mf_X10_86) dX10_arriveUrgentReceipt_77 ?_
      refine lv_bipush (v := 8) hx hb dX10_arriveUrgentReceipt_80 (by decide) ?_
      refine lv_iload_n hx hb dX10_arriveUrgentReceipt_82 rfl (lv_at hl 1 rfl) ?_
      refine lv_imul hx hb dX10_arriveUrgentReceipt_83 ?_
      refine lv_topi (fun x83 ex83 => ?_)
      have hw := hw x83 ex83
      refine lv_iload_n hx hb dX10_arriveUrgentReceipt_84 rfl (lv_at hl 2 rfl) ?_
      refine lv_iadd hx hb dX10_arriveUrgentReceipt_85 ?_
      refine lv_topi (fun x85 ex85 => ?_)
      have hw := hw x85 ex85
      obtain ⟨hi12, hw⟩ := hw
      refine w_ia (N := 16) hx hb hK hP (ch10_26 th10).2.1.1 (ch10_26 th10).2.1 (ch10_26 th10).2.2 hi12 dX10_arriveUrgentReceipt_86 ?_
      refine lv_topi (fun x86 ex86 => ?_)
      have hw := hw x86 ex86
      obtain ⟨hi14, hw⟩ := hw
      refine w_is (N := 16) hx hb hK hP hS (ch10_26 th10).2.1.1 (ch10_26 th10).2.1 (ch10_26 th10).2.2 hi14 dX10_arriveUrgentReceipt_87 (fun v13 H locs hv13 hP hz hS => ?_)
      have hw := hw v13 hv13
      obtain ⟨x88, ex88⟩ : ∃ y : Int32, y = a2 + 1 := ⟨_, rfl⟩
      have hw := hw x88 ex88
      refine lv_iinc (v := x88) (lv' := [(2, .int x88), (0, .ref (base + 816)), (1, .int a1)]) hx hb dX10_arriveUrgentReceipt_88 hl (k := 2) rfl (by rw [ex88]; first | rfl | (rw [show Int32.ofInt (-1) = (-1 : Int32) from by decide])) (by decide) rfl (fun ls hl => ?_)
      refine lv_goto (tgt := 54) hx hb dX10_arriveUrgentReceipt_91 (by decide) ?_
      exact ih a1 x88 v13 _ _ _ hw (lv_sub hl [1, 2, 0] rfl) hP hS
def w_X10_arriveUrgentReceipt (p1 : Int32) (v : VV) (Q : VV → Prop) : Prop :=
  vp_in p1 2 ∧ ∀ x5 : Int32, x5 = v 817 (Int32.toNatClampNeg p1) → (¬ x5 = 2 → Q v) ∧ (x5 = 2 → vp_in p1 2 ∧ ∀ x15 : Int32, x15 = v 841 (Int32.toNatClampNeg p1) → (x15 = 0 → Q v) ∧ (¬ x15 = 0 → vp_in p1 2 ∧ ∀ x24 : Int32, x24 = v 844 (Int32.toNatClampNeg p1) → (x24 = 0 → Q v) ∧ (¬ x24 = 0 → ∀ x33 : Int32, x33 = v 872 (Int32.toNatClampNeg 4) → w_X10_mod x33 v (fun (x34 : Int32) (v4 : VV) => vp_in p1 2 ∧ ∀ x42 : Int32, x42 = v4 843 (Int32.toNatClampNeg p1) → ∀ x44 : Int32, x44 = x42 + 1 → w_X10_mod x44 v4 (fun (x45 : Int32) (v6 : VV) => (x34 = x45 → ∃ fu : Nat, b_X10_arriveUrgentReceipt_54 p1 Q  fu p1 1 v6) ∧ (¬ x34 = x45 → Q v6))))))
set_option maxHeartbeats 4000000 in
set_option maxRecDepth 100000 in
/-- TransportFourModel.arriveUrgentReceipt -/
theorem t_X10_arriveUrgentReceipt (l : Launch) (dC : Nat → ClassId) (dI : Nat → Nat → Nat) (base : Nat) (cy : Nat → ClassId) (p1 : Int32) (v : VV) (Q : VV → Prop) (hw : w_X10_arriveUrgentReceipt p1 v Q) : CV l yX10_arriveUrgentReceipt (.code yX10_arriveUrgentReceipt cX10_arriveUrgentReceipt 3 none :: TB) { frames := 4, cells := 0, slots := 0, locals := 90 } dC dI base cy [.ref (base + 816), .int p1] v Q := by
  refine Met.ofW (cc := cX10_arriveUrgentReceipt) (maxL := 3) (ret := none) (by decide) rfl ?_
  intro p e s m args below meth c s₁ B hml hv
  obtain ⟨rfl, hP, hK⟩ := hv
  have hx := B.exec
  have hb := B.bytes
  have hr := B.returns
  have hts0 := atoms_spec (ws := (.code yX10_arriveUrgentReceipt cX10_arriveUrgentReceipt 3 none :: TB)) B.pre
  have hts : ∀ w ∈ TB, w.before ([.ref (base + 816), .int p1]).toArray s = true := fun w h => hts0 w (List.mem_cons_of_mem _ h)
  have hown : s.vm.findClass RX10 = some m.cls := findClass_of_methodNamed B.named
  have hlocks := B.notSynchronized
  have hS : va_S (fun q => base ≤ q) s.heap s.heap [] := va_S.rf
  have hl := lv_entry ([.ref (base + 816), .int p1]) (n := 3) (Nat.le_of_ble_eq_true rfl)
  rw [lg_entry_eq]
  generalize (lg_sl ([.ref (base + 816), .int p1]) ++ List.replicate (3 - (lg_sl ([.ref (base + 816), .int p1])).length) Slot.unset).toArray = ls at hl ⊢
  have hl : lv_has ls 3 [(0, .ref (base + 816)), (1, .int p1)] := hl
  have hret : ∀ (pc : Nat) (v : VV) (H : Heap) (locs : List Loc) (ls : Array Slot), decode cX10_arriveUrgentReceipt pc = .ok (.return_, 1) → Q v → va_P (dC, dI) vwCl (Wd base cy rf v 874) H → va_S (fun q => base ≤ q) s.heap H locs → W p l e { frames := 4, cells := 0, slots := 0, locals := 90 } s m ([.ref (base + 816), .int p1]).toArray below meth c H locs 0 0 (MQ below (va_Qv Q (Hp dC dI base cy) (fun q => base ≤ q)) ([.ref (base + 816), .int p1]).toArray s 0 0 (fun q => base ≤ q)) (F0 m pc ls []) := fun pc v H locs ls hd hq hP hS => W.vret hx hb hr (fun t ht hW => ⟨⟨v, rfl, hq, by rw [ht]; exact hP, va_K.moved hW.alike hK⟩, hS.F ht⟩) hS.2.2 hd
  refine lv_aload_n hx hb dX10_arriveUrgentReceipt_0 rfl (lv_at hl 0 rfl) ?_
  refine w_gR (C := RX10) (T := TX10) (N := 64) (ci := 10) hx hb hts in10 hown hK hP 1 th10.1 th10 rfl (by decide) (ch10_1 th10).1 (hts _ mf_X10_7) dX10_arriveUrgentReceipt_1 ?_
  refine lv_iload_n hx hb dX10_arriveUrgentReceipt_4 rfl (lv_at hl 1 rfl) ?_
  obtain ⟨hi1, hw⟩ := hw
  refine w_ia (N := 2) hx hb hK hP (ch10_1 th10).2.1.1 (ch10_1 th10).2.1 (ch10_1 th10).2.2 hi1 dX10_arriveUrgentReceipt_5 ?_
  refine lv_topi (fun x5 ex5 => ?_)
  have hw := hw x5 ex5
  refine lv_iconst (v := 2) hx hb dX10_arriveUrgentReceipt_6 (by decide) ?_
  refine lv_icmp_ne (tgt := 51) hx hb dX10_arriveUrgentReceipt_7 (by decide) (fun c7 => ?_) (fun c7 => ?_)
  · have hw := hw.1 c7
    exact hret _ _ _ _ _ dX10_arriveUrgentReceipt_51 hw hP hS
  · have hw := hw.2 c7
    refine lv_aload_n hx hb dX10_arriveUrgentReceipt_10 rfl (lv_at hl 0 rfl) ?_
    refine w_gR (C := RX10) (T := TX10) (N := 64) (ci := 10) hx hb hts in10 hown hK hP 25 th10.1 th10 rfl (by decide) (ch10_25 th10).1 (hts _ mf_X10_83) dX10_arriveUrgentReceipt_11 ?_
    refine lv_iload_n hx hb dX10_arriveUrgentReceipt_14 rfl (lv_at hl 1 rfl) ?_
    obtain ⟨hi2, hw⟩ := hw
    refine w_ia (N := 2) hx hb hK hP (ch10_25 th10).2.1.1 (ch10_25 th10).2.1 (ch10_25 th10).2.2 hi2 dX10_arriveUrgentReceipt_15 ?_
    refine lv_topi (fun x15 ex15 => ?_)
    have hw := hw x15 ex15
    refine lv_if_eq (tgt := 51) hx hb dX10_arriveUrgentReceipt_16 (by decide) (fun c16 => ?_) (fun c16 => ?_)
    · have hw := hw.1 c16
      exact hret _ _ _ _ _ dX10_arriveUrgentReceipt_51 hw hP hS
    · have hw := hw.2 c16
      refine lv_aload_n hx hb dX10_arriveUrgentReceipt_19 rfl (lv_at hl 0 rfl) ?_
      refine w_gR (C := RX10) (T := TX10) (N := 64) (ci := 10) hx hb hts in10 hown hK hP 28 th10.1 th10 rfl (by decide) (ch10_28 th10).1 (hts _ mf_X10_92) dX10_arriveUrgentReceipt_20 ?_
      refine lv_iload_n hx hb dX10_arriveUrgentReceipt_23 rfl (lv_at hl 1 rfl) ?_
      obtain ⟨hi3, hw⟩ := hw
      refine w_ia (N := 2) hx hb hK hP (ch10_28 th10).2.1.1 (ch10_28 th10).2.1 (ch10_28 th10).2.2 hi3 dX10_arriveUrgentReceipt_24 ?_
      refine lv_topi (fun x24 ex24 => ?_)
      have hw := hw x24 ex24
      refine lv_if_eq (tgt := 51) hx hb dX10_arriveUrgentReceipt_25 (by decide) (fun c25 => ?_) (fun c25 => ?_)
      · have hw := hw.1 c25
        exact hret _ _ _ _ _ dX10_arriveUrgentReceipt_51 hw hP hS
      · have hw := hw.2 c25
        refine lv_aload_n hx hb dX10_arriveUrgentReceipt_28 rfl (lv_at hl 0 rfl) ?_
        refine w_gR (C := RX10) (T := TX10) (N := 64) (ci := 10) hx hb hts in10 hown hK hP 60 th10.1 th10 rfl (by decide) (ch10_60 th10).1 (hts _ mf_X10_177) dX10_arriveUrgentReceipt_29 ?_
        refine lv_iconst (v := 4) hx hb dX10_arriveUrgentReceipt_32 (by decide) ?_
        refine w_ia (N := 20) hx hb hK hP (ch10_60 th10).2.1.1 (ch10_60 th10).2.1 (ch10_60 th10).2.2 (vp_in_nI (n := 4) (by decide) (by decide)) dX10_arriveUrgentReceipt_33 ?_
        refine lv_topi (fun x33 ex33 => ?_)
        have hw := hw x33 ex33
        refine kS_I (As := [.int x33]) (rest := []) ⟨hx, hb, hml, hown, hts⟩ (t_X10_mod l dC dI base cy x33 v _ hw) (cwS 1 hts (gS ml_X10_221 mt_X10_mod mn_X10 mo_X10_mod) rfl rfl rfl (by decide +kernel) ⟨by decide, by decide⟩) hK hP hS rfl hl.1 rfl (Nat.le_of_ble_eq_true rfl) dX10_arriveUrgentReceipt_34 ⟨Nat.zero_le _, Nat.zero_le _⟩ (fun x34 v4 H locs hw hP hS => ?_)
        refine lv_aload_n hx hb dX10_arriveUrgentReceipt_37 rfl (lv_at hl 0 rfl) ?_
        refine w_gR (C := RX10) (T := TX10) (N := 64) (ci := 10) hx hb hts in10 hown hK hP 27 th10.1 th10 rfl (by decide) (ch10_27 th10).1 (hts _ mf_X10_89) dX10_arriveUrgentReceipt_38 ?_
        refine lv_iload_n hx hb dX10_arriveUrgentReceipt_41 rfl (lv_at hl 1 rfl) ?_
        obtain ⟨hi5, hw⟩ := hw
        refine w_ia (N := 2) hx hb hK hP (ch10_27 th10).2.1.1 (ch10_27 th10).2.1 (ch10_27 th10).2.2 hi5 dX10_arriveUrgentReceipt_42 ?_
        refine lv_topi (fun x42 ex42 => ?_)
        have hw := hw x42 ex42
        refine lv_iconst (v := 1) hx hb dX10_arriveUrgentReceipt_43 (by decide) ?_
        refine lv_iadd hx hb dX10_arriveUrgentReceipt_44 ?_
        refine lv_topi (fun x44 ex44 => ?_)
        have hw := hw x44 ex44
        refine kS_I (As := [.int x44]) (rest := [.int x34]) ⟨hx, hb, hml, hown, hts⟩ (t_X10_mod l dC dI base cy x44 v4 _ hw) (cwS 1 hts (gS ml_X10_221 mt_X10_mod mn_X10 mo_X10_mod) rfl rfl rfl (by decide +kernel) ⟨by decide, by decide⟩) hK hP hS rfl hl.1 rfl (Nat.le_of_ble_eq_true rfl) dX10_arriveUrgentReceipt_45 ⟨Nat.zero_le _, Nat.zero_le _⟩ (fun x45 v6 H locs hw hP hS => ?_)
        refine lv_icmp_eq (tgt := 52) hx hb dX10_arriveUrgentReceipt_48 (by decide) (fun c48 => ?_) (fun c48 => ?_)
        · have hw := hw.1 c48
          refine lv_iconst (v := 1) hx hb dX10_arriveUrgentReceipt_52 (by decide) ?_
          refine lv_istore_n (lv' := [(2, .int 1), (0, .ref (base + 816)), (1, .int p1)]) hx hb dX10_arriveUrgentReceipt_53 rfl hl (by decide) rfl (fun ls hl => ?_)
          obtain ⟨fu, hw⟩ := hw
          exact tb_X10_arriveUrgentReceipt_54 hx hb hml hown hts hK p1 _ hret  fu p1 1 v6 _ _ _ hw (lv_sub hl [1, 2, 0] rfl) hP hS
        · have hw := hw.2 c48
          exact hret _ _ _ _ _ dX10_arriveUrgentReceipt_51 hw hP hS
def w_X10_arriveEnd (p1 : Int32) (v : VV) (Q : VV → Prop) : Prop :=
  w_X10_two 4 v (fun (x7 : Int32) (v1 : VV) => vp_in p1 2 ∧ ∀ x15 : Int32, x15 = v1 818 (Int32.toNatClampNeg p1) → w_X10_sendCode p1 192 x7 x15 ((-1)) v1 (fun (v3 : VV) => ∀ x28 : Int32, x28 = v3 872 (Int32.toNatClampNeg 6) → w_X10_setReason p1 x28 v3 (fun (v4 : VV) => vp_in p1 2 ∧ ∀ x37 : Int32, x37 = v4 817 (Int32.toNatClampNeg p1) → (¬ x37 = 1 → w_X10_freeze p1 v4 (fun (v6 : VV) => Q v6)) ∧ (x37 = 1 → vp_in p1 2 ∧ ∀ v7 : VV, v7 = up2 v4 817 (Int32.toNatClampNeg p1) 0 → vp_in p1 2 ∧ ∀ v9 : VV, v9 = up2 v7 825 (Int32.toNatClampNeg p1) 0 → Q v9))))
set_option maxHeartbeats 4000000 in
set_option maxRecDepth 100000 in
/-- TransportFourModel.arriveEnd -/
theorem t_X10_arriveEnd (l : Launch) (dC : Nat → ClassId) (dI : Nat → Nat → Nat) (base : Nat) (cy : Nat → ClassId) (p1 : Int32) (v : VV) (Q : VV → Prop) (hw : w_X10_arriveEnd p1 v Q) : CV l yX10_arriveEnd (.code yX10_arriveEnd cX10_arriveEnd 2 none :: TB) { frames := 3, cells := 0, slots := 0, locals := 69 } dC dI base cy [.ref (base + 816), .int p1] v Q := by
  refine Met.ofW (cc := cX10_arriveEnd) (maxL := 2) (ret := none) (by decide) rfl ?_
  intro p e s m args below meth c s₁ B hml hv
  obtain ⟨rfl, hP, hK⟩ := hv
  have hx := B.exec
  have hb := B.bytes
  have hr := B.returns
  have hts0 := atoms_spec (ws := (.code yX10_arriveEnd cX10_arriveEnd 2 none :: TB)) B.pre
  have hts : ∀ w ∈ TB, w.before ([.ref (base + 816), .int p1]).toArray s = true := fun w h => hts0 w (List.mem_cons_of_mem _ h)
  have hown : s.vm.findClass RX10 = some m.cls := findClass_of_methodNamed B.named
  have hlocks := B.notSynchronized
  have hS : va_S (fun q => base ≤ q) s.heap s.heap [] := va_S.rf
  have hl := lv_entry ([.ref (base + 816), .int p1]) (n := 2) (Nat.le_of_ble_eq_true rfl)
  rw [lg_entry_eq]
  generalize (lg_sl ([.ref (base + 816), .int p1]) ++ List.replicate (2 - (lg_sl ([.ref (base + 816), .int p1])).length) Slot.unset).toArray = ls at hl ⊢
  have hl : lv_has ls 2 [(0, .ref (base + 816)), (1, .int p1)] := hl
  have hret : ∀ (pc : Nat) (v : VV) (H : Heap) (locs : List Loc) (ls : Array Slot), decode cX10_arriveEnd pc = .ok (.return_, 1) → Q v → va_P (dC, dI) vwCl (Wd base cy rf v 874) H → va_S (fun q => base ≤ q) s.heap H locs → W p l e { frames := 3, cells := 0, slots := 0, locals := 69 } s m ([.ref (base + 816), .int p1]).toArray below meth c H locs 0 0 (MQ below (va_Qv Q (Hp dC dI base cy) (fun q => base ≤ q)) ([.ref (base + 816), .int p1]).toArray s 0 0 (fun q => base ≤ q)) (F0 m pc ls []) := fun pc v H locs ls hd hq hP hS => W.vret hx hb hr (fun t ht hW => ⟨⟨v, rfl, hq, by rw [ht]; exact hP, va_K.moved hW.alike hK⟩, hS.F ht⟩) hS.2.2 hd
  refine lv_aload_n hx hb dX10_arriveEnd_0 rfl (lv_at hl 0 rfl) ?_
  refine lv_iload_n hx hb dX10_arriveEnd_1 rfl (lv_at hl 1 rfl) ?_
  refine lv_sipush (v := 192) hx hb dX10_arriveEnd_2 (by decide) ?_
  refine lv_aload_n hx hb dX10_arriveEnd_5 rfl (lv_at hl 0 rfl) ?_
  refine lv_iconst (v := 4) hx hb dX10_arriveEnd_6 (by decide) ?_
  refine k_I (As := [.int 4]) (rest := [.int 192, .int p1, .ref (base + 816)]) ⟨hx, hb, hml, hown, hts⟩ (t_X10_two l dC dI base cy 4 v _ hw) (cwV 1 hts (gV ml_X10_268 mi_X10_two mx_X10_two mn_X10 mo_X10_two) rfl rfl rfl (by decide +kernel) ⟨by decide, by decide⟩) hK hP hS th10 (by decide) rfl rfl hl.1 rfl (Nat.le_of_ble_eq_true rfl) dX10_arriveEnd_7 ⟨Nat.zero_le _, Nat.zero_le _⟩ (fun x7 v1 H locs hw hP hS => ?_)
  refine lv_aload_n hx hb dX10_arriveEnd_10 rfl (lv_at hl 0 rfl) ?_
  refine w_gR (C := RX10) (T := TX10) (N := 64) (ci := 10) hx hb hts in10 hown hK hP 2 th10.1 th10 rfl (by decide) (ch10_2 th10).1 (hts _ mf_X10_13) dX10_arriveEnd_11 ?_
  refine lv_iload_n hx hb dX10_arriveEnd_14 rfl (lv_at hl 1 rfl) ?_
  obtain ⟨hi2, hw⟩ := hw
  refine w_ia (N := 2) hx hb hK hP (ch10_2 th10).2.1.1 (ch10_2 th10).2.1 (ch10_2 th10).2.2 hi2 dX10_arriveEnd_15 ?_
  refine lv_topi (fun x15 ex15 => ?_)
  have hw := hw x15 ex15
  refine lv_iconst (v := -1) hx hb dX10_arriveEnd_16 (by decide) ?_
  refine k_V (As := [.int p1, .int 192, .int x7, .int x15, .int ((-1))]) (rest := []) ⟨hx, hb, hml, hown, hts⟩ (t_X10_sendCode l dC dI base cy p1 192 x7 x15 ((-1)) v1 _ hw) (cwV 5 hts (gV ml_X10_238 mi_X10_sendCode mx_X10_sendCode mn_X10 mo_X10_sendCode) rfl rfl rfl (by decide +kernel) ⟨by decide, by decide⟩) hK hP hS th10 (by decide) rfl rfl hl.1 rfl (Nat.le_of_ble_eq_true rfl) dX10_arriveEnd_17 ⟨Nat.zero_le _, Nat.zero_le _⟩ (fun v3 H locs hw hP hS => ?_)
  refine lv_aload_n hx hb dX10_arriveEnd_20 rfl (lv_at hl 0 rfl) ?_
  refine lv_iload_n hx hb dX10_arriveEnd_21 rfl (lv_at hl 1 rfl) ?_
  refine lv_aload_n hx hb dX10_arriveEnd_22 rfl (lv_at hl 0 rfl) ?_
  refine w_gR (C := RX10) (T := TX10) (N := 64) (ci := 10) hx hb hts in10 hown hK hP 60 th10.1 th10 rfl (by decide) (ch10_60 th10).1 (hts _ mf_X10_177) dX10_arriveEnd_23 ?_
  refine lv_bipush (v := 6) hx hb dX10_arriveEnd_26 (by decide) ?_
  refine w_ia (N := 20) hx hb hK hP (ch10_60 th10).2.1.1 (ch10_60 th10).2.1 (ch10_60 th10).2.2 (vp_in_nI (n := 6) (by decide) (by decide)) dX10_arriveEnd_28 ?_
  refine lv_topi (fun x28 ex28 => ?_)
  have hw := hw x28 ex28
  refine k_V (As := [.int p1, .int x28]) (rest := []) ⟨hx, hb, hml, hown, hts⟩ (t_X10_setReason l dC dI base cy p1 x28 v3 _ hw) (cwV 2 hts (gV ml_X10_245 mi_X10_setReason mx_X10_setReason mn_X10 mo_X10_setReason) rfl rfl rfl (by decide +kernel) ⟨by decide, by decide⟩) hK hP hS th10 (by decide) rfl rfl hl.1 rfl (Nat.le_of_ble_eq_true rfl) dX10_arriveEnd_29 ⟨Nat.zero_le _, Nat.zero_le _⟩ (fun v4 H locs hw hP hS => ?_)
  refine lv_aload_n hx hb dX10_arriveEnd_32 rfl (lv_at hl 0 rfl) ?_
  refine w_gR (C := RX10) (T := TX10) (N := 64) (ci := 10) hx hb hts in10 hown hK hP 1 th10.1 th10 rfl (by decide) (ch10_1 th10).1 (hts _ mf_X10_7) dX10_arriveEnd_33 ?_
  refine lv_iload_n hx hb dX10_arriveEnd_36 rfl (lv_at hl 1 rfl) ?_
  obtain ⟨hi5, hw⟩ := hw
  refine w_ia (N := 2) hx hb hK hP (ch10_1 th10).2.1.1 (ch10_1 th10).2.1 (ch10_1 th10).2.2 hi5 dX10_arriveEnd_37 ?_
  refine lv_topi (fun x37 ex37 => ?_)
  have hw := hw x37 ex37
  refine lv_iconst (v := 1) hx hb dX10_arriveEnd_38 (by decide) ?_
  refine lv_icmp_ne (tgt := 59) hx hb dX10_arriveEnd_39 (by decide) (fun c39 => ?_) (fun c39 => ?_)
  · have hw := hw.1 c39
    refine lv_aload_n hx hb dX10_arriveEnd_59 rfl (lv_at hl 0 rfl) ?_
    refine lv_iload_n hx hb dX10_arriveEnd_60 rfl (lv_at hl 1 rfl) ?_
    refine k_V (As := [.int p1]) (rest := []) ⟨hx, hb, hml, hown, hts⟩ (t_X10_freeze l dC dI base cy p1 v4 _ hw) (cwV 1 hts (gV ml_X10_248 mi_X10_freeze mx_X10_freeze mn_X10 mo_X10_freeze) rfl rfl rfl (by decide +kernel) ⟨by decide, by decide⟩) hK hP hS th10 (by decide) rfl rfl hl.1 rfl (Nat.le_of_ble_eq_true rfl) dX10_arriveEnd_61 ⟨Nat.zero_le _, Nat.zero_le _⟩ (fun v6 H locs hw hP hS => ?_)
    exact hret _ _ _ _ _ dX10_arriveEnd_64 hw hP hS
  · have hw := hw.2 c39
    refine lv_aload_n hx hb dX10_arriveEnd_42 rfl (lv_at hl 0 rfl) ?_
    refine w_gR (C := RX10) (T := TX10) (N := 64) (ci := 10) hx hb hts in10 hown hK hP 1 th10.1 th10 rfl (by decide) (ch10_1 th10).1 (hts _ mf_X10_7) dX10_arriveEnd_43 ?_
    refine lv_iload_n hx hb dX10_arriveEnd_46 rfl (lv_at hl 1 rfl) ?_
    refine lv_iconst (v := 0) hx hb dX10_arriveEnd_47 (by decide) ?_
    obtain ⟨hi8, hw⟩ := hw
    refine w_is (N := 2) hx hb hK hP hS (ch10_1 th10).2.1.1 (ch10_1 th10).2.1 (ch10_1 th10).2.2 hi8 dX10_arriveEnd_48 (fun v7 H locs hv7 hP hz hS => ?_)
    have hw := hw v7 hv7
    refine lv_aload_n hx hb dX10_arriveEnd_49 rfl (lv_at hl 0 rfl) ?_
    refine w_gR (C := RX10) (T := TX10) (N := 64) (ci := 10) hx hb hts in10 hown hK hP 9 th10.1 th10 rfl (by decide) (ch10_9 th10).1 (hts _ mf_X10_35) dX10_arriveEnd_50 ?_
    refine lv_iload_n hx hb dX10_arriveEnd_53 rfl (lv_at hl 1 rfl) ?_
    refine lv_iconst (v := 0) hx hb dX10_arriveEnd_54 (by decide) ?_
    obtain ⟨hi10, hw⟩ := hw
    refine w_is (N := 2) hx hb hK hP hS (ch10_9 th10).2.1.1 (ch10_9 th10).2.1 (ch10_9 th10).2.2 hi10 dX10_arriveEnd_55 (fun v9 H locs hv9 hP hz hS => ?_)
    have hw := hw v9 hv9
    refine lv_goto (tgt := 64) hx hb dX10_arriveEnd_56 (by decide) ?_
    exact hret _ _ _ _ _ dX10_arriveEnd_64 hw hP hS
