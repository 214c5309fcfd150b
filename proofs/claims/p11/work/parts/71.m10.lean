def b_X10_resend_152 (p1 : Int32) (Q : VV → Prop) (a1 : Int32) (a2 : Int32) (v : VV) : Prop :=
  vp_in a1 2 ∧ ∀ x157 : Int32, x157 = v 817 (Int32.toNatClampNeg a1) → (¬ x157 = 2 → Q v) ∧ (x157 = 2 → vp_in a1 2 ∧ ∀ x167 : Int32, x167 = v 841 (Int32.toNatClampNeg a1) → (x167 ≤ 0 → Q v) ∧ (¬ x167 ≤ 0 → vp_in a1 2 ∧ ∀ x178 : Int32, x178 = v 844 (Int32.toNatClampNeg a1) → vp_in a1 2 ∧ ∀ x184 : Int32, x184 = v 845 (Int32.toNatClampNeg a1) → w_X10_isDue a1 x178 x184 v (fun (x185 : Int32) (v5 : VV) => (x185 = 0 → Q v5) ∧ (¬ x185 = 0 → w_X10_sendUrge a1 v5 (fun (v6 : VV) => Q v6)))))
set_option maxHeartbeats 4000000 in
set_option maxRecDepth 100000 in
theorem tb_X10_resend_152 {p : Program} {l : Launch} {e : Env} {s : State} {m : MethodId} {args : Array Value} {below : List Frame} {meth : Method} {c : Code} {QQ : State → Prop} {dC : Nat → ClassId} {dI : Nat → Nat → Nat} {base : Nat} {cy : Nat → ClassId} (hx : p.tables.exec = Jvm.exec) (hb : c.code = cX10_resend) (hml : c.maxLocals = 3) (hown : s.vm.findClass RX10 = some m.cls) (hts : ∀ w ∈ TB, w.before args s = true) (hK : va_K (dC, dI) vwCl (tyL cy) s) (p1 : Int32) (Q : VV → Prop) (hret : ∀ (pc : Nat) (v : VV) (H : Heap) (locs : List Loc) (ls : Array Slot), decode cX10_resend pc = .ok (.return_, 1) → Q v → va_P (dC, dI) vwCl (Wd base cy rf v 874) H → va_S (fun q => base ≤ q) s.heap H locs → W p l e { frames := 5, cells := 0, slots := 0, locals := 113 } s m args below meth c H locs 0 0 QQ (F0 m pc ls [])) (a1 : Int32) (a2 : Int32) (v : VV) (H : Heap) (locs : List Loc) (ls : Array Slot) (hw : b_X10_resend_152 p1 Q  a1 a2 v) : lv_has ls 3 [(0, .ref (base + 816)), (1, .int a1), (2, .int a2)] → va_P (dC, dI) vwCl (Wd base cy rf v 874) H → va_S (fun q => base ≤ q) s.heap H locs → W p l e { frames := 5, cells := 0, slots := 0, locals := 113 } s m args below meth c H locs 0 0 QQ (F0 m 152 ls []) := by
  intro hl hP hS
  refine lv_aload_n hx hb dX10_resend_152 rfl (lv_at hl 0 rfl) ?_
  refine w_gR (C := RX10) (T := TX10) (N := 64) (ci := 10) hx hb hts in10 hown hK hP 1 th10.1 th10 rfl (by decide) (ch10_1 th10).1 (hts _ mf_X10_7) dX10_resend_153 ?_
  refine lv_iload_n hx hb dX10_resend_156 rfl (lv_at hl 1 rfl) ?_
  obtain ⟨hi1, hw⟩ := hw
  refine w_ia (N := 2) hx hb hK hP (ch10_1 th10).2.1.1 (ch10_1 th10).2.1 (ch10_1 th10).2.2 hi1 dX10_resend_157 ?_
  refine lv_topi (fun x157 ex157 => ?_)
  have hw := hw x157 ex157
  refine lv_iconst (v := 2) hx hb dX10_resend_158 (by decide) ?_
  refine lv_icmp_ne (tgt := 196) hx hb dX10_resend_159 (by decide) (fun c159 => ?_) (fun c159 => ?_)
  · have hw := hw.1 c159
    exact hret _ _ _ _ _ dX10_resend_196 hw hP hS
  · have hw := hw.2 c159
    refine lv_aload_n hx hb dX10_resend_162 rfl (lv_at hl 0 rfl) ?_
    refine w_gR (C := RX10) (T := TX10) (N := 64) (ci := 10) hx hb hts in10 hown hK hP 25 th10.1 th10 rfl (by decide) (ch10_25 th10).1 (hts _ mf_X10_83) dX10_resend_163 ?_
    refine lv_iload_n hx hb dX10_resend_166 rfl (lv_at hl 1 rfl) ?_
    obtain ⟨hi2, hw⟩ := hw
    refine w_ia (N := 2) hx hb hK hP (ch10_25 th10).2.1.1 (ch10_25 th10).2.1 (ch10_25 th10).2.2 hi2 dX10_resend_167 ?_
    refine lv_topi (fun x167 ex167 => ?_)
    have hw := hw x167 ex167
    refine lv_if_le (tgt := 196) hx hb dX10_resend_168 (by decide) (fun c168 => ?_) (fun c168 => ?_)
    · have hw := hw.1 c168
      exact hret _ _ _ _ _ dX10_resend_196 hw hP hS
    · have hw := hw.2 c168
      refine lv_aload_n hx hb dX10_resend_171 rfl (lv_at hl 0 rfl) ?_
      refine lv_iload_n hx hb dX10_resend_172 rfl (lv_at hl 1 rfl) ?_
      refine lv_aload_n hx hb dX10_resend_173 rfl (lv_at hl 0 rfl) ?_
      refine w_gR (C := RX10) (T := TX10) (N := 64) (ci := 10) hx hb hts in10 hown hK hP 28 th10.1 th10 rfl (by decide) (ch10_28 th10).1 (hts _ mf_X10_92) dX10_resend_174 ?_
      refine lv_iload_n hx hb dX10_resend_177 rfl (lv_at hl 1 rfl) ?_
      obtain ⟨hi3, hw⟩ := hw
      refine w_ia (N := 2) hx hb hK hP (ch10_28 th10).2.1.1 (ch10_28 th10).2.1 (ch10_28 th10).2.2 hi3 dX10_resend_178 ?_
      refine lv_topi (fun x178 ex178 => ?_)
      have hw := hw x178 ex178
      refine lv_aload_n hx hb dX10_resend_179 rfl (lv_at hl 0 rfl) ?_
      refine w_gR (C := RX10) (T := TX10) (N := 64) (ci := 10) hx hb hts in10 hown hK hP 29 th10.1 th10 rfl (by decide) (ch10_29 th10).1 (hts _ mf_X10_95) dX10_resend_180 ?_
      refine lv_iload_n hx hb dX10_resend_183 rfl (lv_at hl 1 rfl) ?_
      obtain ⟨hi4, hw⟩ := hw
      refine w_ia (N := 2) hx hb hK hP (ch10_29 th10).2.1.1 (ch10_29 th10).2.1 (ch10_29 th10).2.2 hi4 dX10_resend_184 ?_
      refine lv_topi (fun x184 ex184 => ?_)
      have hw := hw x184 ex184
      refine k_I (As := [.int a1, .int x178, .int x184]) (rest := []) ⟨hx, hb, hml, hown, hts⟩ (t_X10_isDue l dC dI base cy a1 x178 x184 v _ hw) (cwV 3 hts (gV ml_X10_321 mi_X10_isDue mx_X10_isDue mn_X10 mo_X10_isDue) rfl rfl rfl (by decide +kernel) ⟨by decide, by decide⟩) hK hP hS th10 (by decide) rfl rfl hl.1 rfl (Nat.le_of_ble_eq_true rfl) dX10_resend_185 ⟨Nat.zero_le _, Nat.zero_le _⟩ (fun x185 v5 H locs hw hP hS => ?_)
      refine lv_if_eq (tgt := 196) hx hb dX10_resend_188 (by decide) (fun c188 => ?_) (fun c188 => ?_)
      · have hw := hw.1 c188
        exact hret _ _ _ _ _ dX10_resend_196 hw hP hS
      · have hw := hw.2 c188
        refine lv_aload_n hx hb dX10_resend_191 rfl (lv_at hl 0 rfl) ?_
        refine lv_iload_n hx hb dX10_resend_192 rfl (lv_at hl 1 rfl) ?_
        refine k_V (As := [.int a1]) (rest := []) ⟨hx, hb, hml, hown, hts⟩ (t_X10_sendUrge l dC dI base cy a1 v5 _ hw) (cwV 1 hts (gV ml_X10_227 mi_X10_sendUrge mx_X10_sendUrge mn_X10 mo_X10_sendUrge) rfl rfl rfl (by decide +kernel) ⟨by decide, by decide⟩) hK hP hS th10 (by decide) rfl rfl hl.1 rfl (Nat.le_of_ble_eq_true rfl) dX10_resend_193 ⟨Nat.zero_le _, Nat.zero_le _⟩ (fun v6 H locs hw hP hS => ?_)
        exact hret _ _ _ _ _ dX10_resend_196 hw hP hS
def b_X10_resend_146 (p1 : Int32) (Q : VV → Prop) (K90 : Int32 → Int32 → VV → Prop) (a1 : Int32) (a2 : Int32) (v : VV) : Prop :=
  ∀ x146 : Int32, x146 = a2 + 1 → K90 a1 x146 v
set_option maxHeartbeats 4000000 in
set_option maxRecDepth 100000 in
theorem tb_X10_resend_146 {p : Program} {l : Launch} {e : Env} {s : State} {m : MethodId} {args : Array Value} {below : List Frame} {meth : Method} {c : Code} {QQ : State → Prop} {dC : Nat → ClassId} {dI : Nat → Nat → Nat} {base : Nat} {cy : Nat → ClassId} (hx : p.tables.exec = Jvm.exec) (hb : c.code = cX10_resend) (hml : c.maxLocals = 3) (hown : s.vm.findClass RX10 = some m.cls) (hts : ∀ w ∈ TB, w.before args s = true) (hK : va_K (dC, dI) vwCl (tyL cy) s) (p1 : Int32) (Q : VV → Prop) (hret : ∀ (pc : Nat) (v : VV) (H : Heap) (locs : List Loc) (ls : Array Slot), decode cX10_resend pc = .ok (.return_, 1) → Q v → va_P (dC, dI) vwCl (Wd base cy rf v 874) H → va_S (fun q => base ≤ q) s.heap H locs → W p l e { frames := 5, cells := 0, slots := 0, locals := 113 } s m args below meth c H locs 0 0 QQ (F0 m pc ls [])) (K90 : Int32 → Int32 → VV → Prop) (hK90 : ∀ (a1 : Int32) (a2 : Int32) (v : VV) (H : Heap) (locs : List Loc) (ls : Array Slot), K90 a1 a2 v → lv_has ls 3 [(0, .ref (base + 816)), (1, .int a1), (2, .int a2)] → va_P (dC, dI) vwCl (Wd base cy rf v 874) H → va_S (fun q => base ≤ q) s.heap H locs → W p l e { frames := 5, cells := 0, slots := 0, locals := 113 } s m args below meth c H locs 0 0 QQ (F0 m 90 ls [])) (a1 : Int32) (a2 : Int32) (v : VV) (H : Heap) (locs : List Loc) (ls : Array Slot) (hw : b_X10_resend_146 p1 Q K90 a1 a2 v) : lv_has ls 3 [(0, .ref (base + 816)), (1, .int a1), (2, .int a2)] → va_P (dC, dI) vwCl (Wd base cy rf v 874) H → va_S (fun q => base ≤ q) s.heap H locs → W p l e { frames := 5, cells := 0, slots := 0, locals := 113 } s m args below meth c H locs 0 0 QQ (F0 m 146 ls []) := by
  intro hl hP hS
  obtain ⟨x146, ex146⟩ : ∃ y : Int32, y = a2 + 1 := ⟨_, rfl⟩
  have hw := hw x146 ex146
  refine lv_iinc (v := x146) (lv' := [(2, .int x146), (0, .ref (base + 816)), (1, .int a1)]) hx hb dX10_resend_146 hl (k := 2) rfl (by rw [ex146]; first | rfl | (rw [show Int32.ofInt (-1) = (-1 : Int32) from by decide])) (by decide) rfl (fun ls hl => ?_)
  refine lv_goto (tgt := 90) hx hb dX10_resend_149 (by decide) ?_
  exact hK90 a1 x146 v _ _ _ hw (lv_sub hl [1, 2, 0] rfl) hP hS
def b_X10_resend_90 (p1 : Int32) (Q : VV → Prop) (fu : Nat) : Int32 → Int32 → VV → Prop :=
  Nat.rec (motive := fun _ => Int32 → Int32 → VV → Prop) (fun _ _ _ => False) (fun _ ih a1 a2 v => vp_in a1 2 ∧ ∀ x96 : Int32, x96 = v 831 (Int32.toNatClampNeg a1) → (x96 ≤ a2 → b_X10_resend_152 p1 Q  a1 a2 v) ∧ (¬ x96 ≤ a2 → vp_in a1 2 ∧ ∀ x105 : Int32, x105 = v 817 (Int32.toNatClampNeg a1) → (¬ x105 = 2 → b_X10_resend_152 p1 Q  a1 a2 v) ∧ (x105 = 2 → ∀ x119 : Int32, x119 = 40 * a1 → ∀ x121 : Int32, x121 = x119 + a2 → vp_in x121 80 ∧ ∀ x122 : Int32, x122 = v 835 (Int32.toNatClampNeg x121) → ∀ x130 : Int32, x130 = 40 * a1 → ∀ x132 : Int32, x132 = x130 + a2 → vp_in x132 80 ∧ ∀ x133 : Int32, x133 = v 836 (Int32.toNatClampNeg x132) → w_X10_isDue a1 x122 x133 v (fun (x134 : Int32) (v5 : VV) => (x134 = 0 → b_X10_resend_146 p1 Q ih a1 a2 v5) ∧ (¬ x134 = 0 → w_X10_sendPiece a1 a2 v5 (fun (v6 : VV) => b_X10_resend_146 p1 Q ih a1 a2 v6)))))) fu
set_option maxHeartbeats 4000000 in
set_option maxRecDepth 100000 in
theorem tb_X10_resend_90 {p : Program} {l : Launch} {e : Env} {s : State} {m : MethodId} {args : Array Value} {below : List Frame} {meth : Method} {c : Code} {QQ : State → Prop} {dC : Nat → ClassId} {dI : Nat → Nat → Nat} {base : Nat} {cy : Nat → ClassId} (hx : p.tables.exec = Jvm.exec) (hb : c.code = cX10_resend) (hml : c.maxLocals = 3) (hown : s.vm.findClass RX10 = some m.cls) (hts : ∀ w ∈ TB, w.before args s = true) (hK : va_K (dC, dI) vwCl (tyL cy) s) (p1 : Int32) (Q : VV → Prop) (hret : ∀ (pc : Nat) (v : VV) (H : Heap) (locs : List Loc) (ls : Array Slot), decode cX10_resend pc = .ok (.return_, 1) → Q v → va_P (dC, dI) vwCl (Wd base cy rf v 874) H → va_S (fun q => base ≤ q) s.heap H locs → W p l e { frames := 5, cells := 0, slots := 0, locals := 113 } s m args below meth c H locs 0 0 QQ (F0 m pc ls [])) : ∀ (fu : Nat) (a1 : Int32) (a2 : Int32) (v : VV) (H : Heap) (locs : List Loc) (ls : Array Slot), b_X10_resend_90 p1 Q  fu a1 a2 v → lv_has ls 3 [(0, .ref (base + 816)), (1, .int a1), (2, .int a2)] → va_P (dC, dI) vwCl (Wd base cy rf v 874) H → va_S (fun q => base ≤ q) s.heap H locs → W p l e { frames := 5, cells := 0, slots := 0, locals := 113 } s m args below meth c H locs 0 0 QQ (F0 m 90 ls []) := by
  intro fu
  induction fu with
  | zero =>
    intro a1 a2 v H locs ls hw hl hP hS
    exact hw.elim
  | succ fu ih =>
    intro a1 a2 v H locs ls hw hl hP hS
    refine lv_iload_n hx hb dX10_resend_90 rfl (lv_at hl 2 rfl) ?_
    refine lv_aload_n hx hb dX10_resend_91 rfl (lv_at hl 0 rfl) ?_
    refine w_gR (C := RX10) (T := TX10) (N := 64) (ci := 10) hx hb hts in10 hown hK hP 15 th10.1 th10 rfl (by decide) (ch10_15 th10).1 (hts _ mf_X10_53) dX10_resend_92 ?_
    refine lv_iload_n hx hb dX10_resend_95 rfl (lv_at hl 1 rfl) ?_
    obtain ⟨hi1, hw⟩ := hw
    refine w_ia (N := 2) hx hb hK hP (ch10_15 th10).2.1.1 (ch10_15 th10).2.1 (ch10_15 th10).2.2 hi1 dX10_resend_96 ?_
    refine lv_topi (fun x96 ex96 => ?_)
    have hw := hw x96 ex96
    refine lv_icmp_ge (tgt := 152) hx hb dX10_resend_97 (by decide) (fun c97 => ?_) (fun c97 => ?_)
    · have hw := hw.1 c97
      exact tb_X10_resend_152 hx hb hml hown hts hK p1 _ hret  a1 a2 v _ _ _ hw (lv_sub hl [0, 1, 2] rfl) hP hS
    · have hw := hw.2 c97
      refine lv_aload_n hx hb dX10_resend_100 rfl (lv_at hl 0 rfl) ?_
      refine w_gR (C := RX10) (T := TX10) (N := 64) (ci := 10) hx hb hts in10 hown hK hP 1 th10.1 th10 rfl (by decide) (ch10_1 th10).1 (hts _ mf_X10_7) dX10_resend_101 ?_
      refine lv_iload_n hx hb dX10_resend_104 rfl (lv_at hl 1 rfl) ?_
      obtain ⟨hi2, hw⟩ := hw
      refine w_ia (N := 2) hx hb hK hP (ch10_1 th10).2.1.1 (ch10_1 th10).2.1 (ch10_1 th10).2.2 hi2 dX10_resend_105 ?_
      refine lv_topi (fun x105 ex105 => ?_)
      have hw := hw x105 ex105
      refine lv_iconst (v := 2) hx hb dX10_resend_106 (by decide) ?_
      refine lv_icmp_ne (tgt := 152) hx hb dX10_resend_107 (by decide) (fun c107 => ?_) (fun c107 => ?_)
      · have hw := hw.1 c107
        exact tb_X10_resend_152 hx hb hml hown hts hK p1 _ hret  a1 a2 v _ _ _ hw (lv_sub hl [0, 1, 2] rfl) hP hS
      · have hw := hw.2 c107
        refine lv_aload_n hx hb dX10_resend_110 rfl (lv_at hl 0 rfl) ?_
        refine lv_iload_n hx hb dX10_resend_111 rfl (lv_at hl 1 rfl) ?_
        refine lv_aload_n hx hb dX10_resend_112 rfl (lv_at hl 0 rfl) ?_
        refine w_gR (C := RX10) (T := TX10) (N := 64) (ci := 10) hx hb hts in10 hown hK hP 19 th10.1 th10 rfl (by decide) (ch10_19 th10).1 (hts _ mf_X10_65) dX10_resend_113 ?_
        refine lv_bipush (v := 40) hx hb dX10_resend_116 (by decide) ?_
        refine lv_iload_n hx hb dX10_resend_118 rfl (lv_at hl 1 rfl) ?_
        refine lv_imul hx hb dX10_resend_119 ?_
        refine lv_topi (fun x119 ex119 => ?_)
        have hw := hw x119 ex119
        refine lv_iload_n hx hb dX10_resend_120 rfl (lv_at hl 2 rfl) ?_
        refine lv_iadd hx hb dX10_resend_121 ?_
        refine lv_topi (fun x121 ex121 => ?_)
        have hw := hw x121 ex121
        obtain ⟨hi3, hw⟩ := hw
        refine w_ia (N := 80) hx hb hK hP (ch10_19 th10).2.1.1 (ch10_19 th10).2.1 (ch10_19 th10).2.2 hi3 dX10_resend_122 ?_
        refine lv_topi (fun x122 ex122 => ?_)
        have hw := hw x122 ex122
        refine lv_aload_n hx hb dX10_resend_123 rfl (lv_at hl 0 rfl) ?_
        refine w_gR (C := RX10) (T := TX10) (N := 64) (ci := 10) hx hb hts in10 hown hK hP 20 th10.1 th10 rfl (by decide) (ch10_20 th10).1 (hts _ mf_X10_68) dX10_resend_124 ?_
        refine lv_bipush (v := 40) hx hb dX10_resend_127 (by decide) ?_
        refine lv_iload_n hx hb dX10_resend_129 rfl (lv_at hl 1 rfl) ?_
        refine lv_imul hx hb dX10_resend_130 ?_
        refine lv_topi (fun x130 ex130 => ?_)
        have hw := hw x130 ex130
        refine lv_iload_n hx hb dX10_resend_131 rfl (lv_at hl 2 rfl) ?_
        refine lv_iadd hx hb dX10_resend_132 ?_
        refine lv_topi (fun x132 ex132 => ?_)
        have hw := hw x132 ex132
        obtain ⟨hi4, hw⟩ := hw
        refine w_ia (N := 80) hx hb hK hP (ch10_20 th10).2.1.1 (ch10_20 th10).2.1 (ch10_20 th10).2.2 hi4 dX10_resend_133 ?_
        refine lv_topi (fun x133 ex133 => ?_)
        have hw := hw x133 ex133
        refine k_I (As := [.int a1, .int x122, .int x133]) (rest := []) ⟨hx, hb, hml, hown, hts⟩ (t_X10_isDue l dC dI base cy a1 x122 x133 v _ hw) (cwV 3 hts (gV ml_X10_321 mi_X10_isDue mx_X10_isDue mn_X10 mo_X10_isDue) rfl rfl rfl (by decide +kernel) ⟨by decide, by decide⟩) hK hP hS th10 (by decide) rfl rfl hl.1 rfl (Nat.le_of_ble_eq_true rfl) dX10_resend_134 ⟨Nat.zero_le _, Nat.zero_le _⟩ (fun x134 v5 H locs hw hP hS => ?_)
        refine lv_if_eq (tgt := 146) hx hb dX10_resend_137 (by decide) (fun c137 => ?_) (fun c137 => ?_)
        · have hw := hw.1 c137
          exact tb_X10_resend_146 hx hb hml hown hts hK p1 _ hret _ ih a1 a2 v5 _ _ _ hw (lv_sub hl [0, 1, 2] rfl) hP hS
        · have hw := hw.2 c137
          refine lv_aload_n hx hb dX10_resend_140 rfl (lv_at hl 0 rfl) ?_
          refine lv_iload_n hx hb dX10_resend_141 rfl (lv_at hl 1 rfl) ?_
          refine lv_iload_n hx hb dX10_resend_142 rfl (lv_at hl 2 rfl) ?_
          refine k_V (As := [.int a1, .int a2]) (rest := []) ⟨hx, hb, hml, hown, hts⟩ (t_X10_sendPiece l dC dI base cy a1 a2 v5 _ hw) (cwV 2 hts (gV ml_X10_224 mi_X10_sendPiece mx_X10_sendPiece mn_X10 mo_X10_sendPiece) rfl rfl rfl (by decide +kernel) ⟨by decide, by decide⟩) hK hP hS th10 (by decide) rfl rfl hl.1 rfl (Nat.le_of_ble_eq_true rfl) dX10_resend_143 ⟨Nat.zero_le _, Nat.zero_le _⟩ (fun v6 H locs hw hP hS => ?_)
          exact tb_X10_resend_146 hx hb hml hown hts hK p1 _ hret _ ih a1 a2 v6 _ _ _ hw (lv_sub hl [0, 1, 2] rfl) hP hS
def b_X10_resend_88 (p1 : Int32) (Q : VV → Prop) (a1 : Int32) (v : VV) : Prop :=
  ∃ fu : Nat, b_X10_resend_90 p1 Q  fu a1 0 v
set_option maxHeartbeats 4000000 in
set_option maxRecDepth 100000 in
theorem tb_X10_resend_88 {p : Program} {l : Launch} {e : Env} {s : State} {m : MethodId} {args : Array Value} {below : List Frame} {meth : Method} {c : Code} {QQ : State → Prop} {dC : Nat → ClassId} {dI : Nat → Nat → Nat} {base : Nat} {cy : Nat → ClassId} (hx : p.tables.exec = Jvm.exec) (hb : c.code = cX10_resend) (hml : c.maxLocals = 3) (hown : s.vm.findClass RX10 = some m.cls) (hts : ∀ w ∈ TB, w.before args s = true) (hK : va_K (dC, dI) vwCl (tyL cy) s) (p1 : Int32) (Q : VV → Prop) (hret : ∀ (pc : Nat) (v : VV) (H : Heap) (locs : List Loc) (ls : Array Slot), decode cX10_resend pc = .ok (.return_, 1) → Q v → va_P (dC, dI) vwCl (Wd base cy rf v 874) H → va_S (fun q => base ≤ q) s.heap H locs → W p l e { frames := 5, cells := 0, slots := 0, locals := 113 } s m args below meth c H locs 0 0 QQ (F0 m pc ls [])) (a1 : Int32) (v : VV) (H : Heap) (locs : List Loc) (ls : Array Slot) (hw : b_X10_resend_88 p1 Q  a1 v) : lv_has ls 3 [(0, .ref (base + 816)), (1, .int a1)] → va_P (dC, dI) vwCl (Wd base cy rf v 874) H → va_S (fun q => base ≤ q) s.heap H locs → W p l e { frames := 5, cells := 0, slots := 0, locals := 113 } s m args below meth c H locs 0 0 QQ (F0 m 88 ls []) := by
  intro hl hP hS
  refine lv_iconst (v := 0) hx hb dX10_resend_88 (by decide) ?_
  refine lv_istore_n (lv' := [(2, .int 0), (0, .ref (base + 816)), (1, .int a1)]) hx hb dX10_resend_89 rfl hl (by decide) rfl (fun ls hl => ?_)
  obtain ⟨fu, hw⟩ := hw
  exact tb_X10_resend_90 hx hb hml hown hts hK p1 _ hret  fu a1 0 v _ _ _ hw (lv_sub hl [1, 2, 0] rfl) hP hS
def b_X10_resend_32 (p1 : Int32) (Q : VV → Prop) (fu : Nat) : Int32 → Int32 → VV → Prop :=
  Nat.rec (motive := fun _ => Int32 → Int32 → VV → Prop) (fun _ _ _ => False) (fun _ ih a1 a2 v => ∀ x34 : Int32, x34 = v 816 63 → (x34 ≤ a2 → w_X10_sendMade a1 v (fun (v1 : VV) => vp_in a1 2 ∧ ∀ x74 : Int32, x74 = v1 825 (Int32.toNatClampNeg a1) → ∀ x76 : Int32, x76 = x74 + 1 → vp_in a1 2 ∧ ∀ v3 : VV, v3 = up2 v1 825 (Int32.toNatClampNeg a1) x76 → ∀ x84 : Int32, x84 = v3 816 0 → vp_in a1 2 ∧ ∀ v5 : VV, v5 = up2 v3 826 (Int32.toNatClampNeg a1) x84 → b_X10_resend_88 p1 Q  a1 v5)) ∧ (¬ x34 ≤ a2 → ∀ x52 : Int32, x52 = 20 * a1 → ∀ x54 : Int32, x54 = x52 + a2 → vp_in x54 40 ∧ ∀ x55 : Int32, x55 = v 828 (Int32.toNatClampNeg x54) → vp_in a2 20 ∧ ∀ v8 : VV, v8 = up2 v 873 (Int32.toNatClampNeg a2) x55 → ∀ x57 : Int32, x57 = a2 + 1 → ih a1 x57 v8)) fu
set_option maxHeartbeats 4000000 in
set_option maxRecDepth 100000 in
theorem tb_X10_resend_32 {p : Program} {l : Launch} {e : Env} {s : State} {m : MethodId} {args : Array Value} {below : List Frame} {meth : Method} {c : Code} {QQ : State → Prop} {dC : Nat → ClassId} {dI : Nat → Nat → Nat} {base : Nat} {cy : Nat → ClassId} (hx : p.tables.exec = Jvm.exec) (hb : c.code = cX10_resend) (hml : c.maxLocals = 3) (hown : s.vm.findClass RX10 = some m.cls) (hts : ∀ w ∈ TB, w.before args s = true) (hK : va_K (dC, dI) vwCl (tyL cy) s) (p1 : Int32) (Q : VV → Prop) (hret : ∀ (pc : Nat) (v : VV) (H : Heap) (locs : List Loc) (ls : Array Slot), decode cX10_resend pc = .ok (.return_, 1) → Q v → va_P (dC, dI) vwCl (Wd base cy rf v 874) H → va_S (fun q => base ≤ q) s.heap H locs → W p l e { frames := 5, cells := 0, slots := 0, locals := 113 } s m args below meth c H locs 0 0 QQ (F0 m pc ls [])) : ∀ (fu : Nat) (a1 : Int32) (a2 : Int32) (v : VV) (H : Heap) (locs : List Loc) (ls : Array Slot), b_X10_resend_32 p1 Q  fu a1 a2 v → lv_has ls 3 [(0, .ref (base + 816)), (1, .int a1), (2, .int a2)] → va_P (dC, dI) vwCl (Wd base cy rf v 874) H → va_S (fun q => base ≤ q) s.heap H locs → W p l e { frames := 5, cells := 0, slots := 0, locals := 113 } s m args below meth c H locs 0 0 QQ (F0 m 32 ls []) := by
  intro fu
  induction fu with
  | zero =>
    intro a1 a2 v H locs ls hw hl hP hS
    exact hw.elim
  | succ fu ih =>
    intro a1 a2 v H locs ls hw hl hP hS
    refine lv_iload_n hx hb dX10_resend_32 rfl (lv_at hl 2 rfl) ?_
    refine lv_aload_n hx hb dX10_resend_33 rfl (lv_at hl 0 rfl) ?_
    refine w_gI (C := RX10) (T := TX10) (N := 64) (ci := 10) hx hb hts in10 hown hK hP 63 th10.1 th10 rfl (by decide) (hts _ mf_X10_183) dX10_resend_34 ?_
    refine lv_topi (fun x34 ex34 => ?_)
    have hw := hw x34 ex34
    refine lv_icmp_ge (tgt := 63) hx hb dX10_resend_37 (by decide) (fun c37 => ?_) (fun c37 => ?_)
    · have hw := hw.1 c37
      refine lv_aload_n hx hb dX10_resend_63 rfl (lv_at hl 0 rfl) ?_
      refine lv_iload_n hx hb dX10_resend_64 rfl (lv_at hl 1 rfl) ?_
      refine k_V (As := [.int a1]) (rest := []) ⟨hx, hb, hml, hown, hts⟩ (t_X10_sendMade l dC dI base cy a1 v _ hw) (cwV 1 hts (gV ml_X10_211 mi_X10_sendMade mx_X10_sendMade mn_X10 mo_X10_sendMade) rfl rfl rfl (by decide +kernel) ⟨by decide, by decide⟩) hK hP hS th10 (by decide) rfl rfl hl.1 rfl (Nat.le_of_ble_eq_true rfl) dX10_resend_65 ⟨Nat.zero_le _, Nat.zero_le _⟩ (fun v1 H locs hw hP hS => ?_)
      refine lv_aload_n hx hb dX10_resend_68 rfl (lv_at hl 0 rfl) ?_
      refine w_gR (C := RX10) (T := TX10) (N := 64) (ci := 10) hx hb hts in10 hown hK hP 9 th10.1 th10 rfl (by decide) (ch10_9 th10).1 (hts _ mf_X10_35) dX10_resend_69 ?_
      refine lv_iload_n hx hb dX10_resend_72 rfl (lv_at hl 1 rfl) ?_
      refine lv_dup2_11 hx hb dX10_resend_73 rfl rfl ?_
      obtain ⟨hi2, hw⟩ := hw
      refine w_ia (N := 2) hx hb hK hP (ch10_9 th10).2.1.1 (ch10_9 th10).2.1 (ch10_9 th10).2.2 hi2 dX10_resend_74 ?_
      refine lv_topi (fun x74 ex74 => ?_)
      have hw := hw x74 ex74
      refine lv_iconst (v := 1) hx hb dX10_resend_75 (by decide) ?_
      refine lv_iadd hx hb dX10_resend_76 ?_
      refine lv_topi (fun x76 ex76 => ?_)
      have hw := hw x76 ex76
      obtain ⟨hi4, hw⟩ := hw
      refine w_is (N := 2) hx hb hK hP hS (ch10_9 th10).2.1.1 (ch10_9 th10).2.1 (ch10_9 th10).2.2 hi4 dX10_resend_77 (fun v3 H locs hv3 hP hz hS => ?_)
      have hw := hw v3 hv3
      refine lv_aload_n hx hb dX10_resend_78 rfl (lv_at hl 0 rfl) ?_
      refine w_gR (C := RX10) (T := TX10) (N := 64) (ci := 10) hx hb hts in10 hown hK hP 10 th10.1 th10 rfl (by decide) (ch10_10 th10).1 (hts _ mf_X10_38) dX10_resend_79 ?_
      refine lv_iload_n hx hb dX10_resend_82 rfl (lv_at hl 1 rfl) ?_
      refine lv_aload_n hx hb dX10_resend_83 rfl (lv_at hl 0 rfl) ?_
      refine w_gI (C := RX10) (T := TX10) (N := 64) (ci := 10) hx hb hts in10 hown hK hP 0 th10.1 th10 rfl (by decide) (hts _ mf_X10_198) dX10_resend_84 ?_
      refine lv_topi (fun x84 ex84 => ?_)
      have hw := hw x84 ex84
      obtain ⟨hi6, hw⟩ := hw
      refine w_is (N := 2) hx hb hK hP hS (ch10_10 th10).2.1.1 (ch10_10 th10).2.1 (ch10_10 th10).2.2 hi6 dX10_resend_87 (fun v5 H locs hv5 hP hz hS => ?_)
      have hw := hw v5 hv5
      exact tb_X10_resend_88 hx hb hml hown hts hK p1 _ hret  a1 v5 _ _ _ hw (lv_sub hl [0, 1] rfl) hP hS
    · have hw := hw.2 c37
      refine lv_aload_n hx hb dX10_resend_40 rfl (lv_at hl 0 rfl) ?_
      refine w_gR (C := RX10) (T := TX10) (N := 64) (ci := 10) hx hb hts in10 hown hK hP 62 th10.1 th10 rfl (by decide) (ch10_62 th10).1 (hts _ mf_X10_180) dX10_resend_41 ?_
      refine lv_iload_n hx hb dX10_resend_44 rfl (lv_at hl 2 rfl) ?_
      refine lv_aload_n hx hb dX10_resend_45 rfl (lv_at hl 0 rfl) ?_
      refine w_gR (C := RX10) (T := TX10) (N := 64) (ci := 10) hx hb hts in10 hown hK hP 12 th10.1 th10 rfl (by decide) (ch10_12 th10).1 (hts _ mf_X10_44) dX10_resend_46 ?_
      refine lv_bipush (v := 20) hx hb dX10_resend_49 (by decide) ?_
      refine lv_iload_n hx hb dX10_resend_51 rfl (lv_at hl 1 rfl) ?_
      refine lv_imul hx hb dX10_resend_52 ?_
      refine lv_topi (fun x52 ex52 => ?_)
      have hw := hw x52 ex52
      refine lv_iload_n hx hb dX10_resend_53 rfl (lv_at hl 2 rfl) ?_
      refine lv_iadd hx hb dX10_resend_54 ?_
      refine lv_topi (fun x54 ex54 => ?_)
      have hw := hw x54 ex54
      obtain ⟨hi7, hw⟩ := hw
      refine w_ia (N := 40) hx hb hK hP (ch10_12 th10).2.1.1 (ch10_12 th10).2.1 (ch10_12 th10).2.2 hi7 dX10_resend_55 ?_
      refine lv_topi (fun x55 ex55 => ?_)
      have hw := hw x55 ex55
      obtain ⟨hi9, hw⟩ := hw
      refine w_is (N := 20) hx hb hK hP hS (ch10_62 th10).2.1.1 (ch10_62 th10).2.1 (ch10_62 th10).2.2 hi9 dX10_resend_56 (fun v8 H locs hv8 hP hz hS => ?_)
      have hw := hw v8 hv8
      obtain ⟨x57, ex57⟩ : ∃ y : Int32, y = a2 + 1 := ⟨_, rfl⟩
      have hw := hw x57 ex57
      refine lv_iinc (v := x57) (lv' := [(2, .int x57), (0, .ref (base + 816)), (1, .int a1)]) hx hb dX10_resend_57 hl (k := 2) rfl (by rw [ex57]; first | rfl | (rw [show Int32.ofInt (-1) = (-1 : Int32) from by decide])) (by decide) rfl (fun ls hl => ?_)
      refine lv_goto (tgt := 32) hx hb dX10_resend_60 (by decide) ?_
      exact ih a1 x57 v8 _ _ _ hw (lv_sub hl [1, 2, 0] rfl) hP hS
def w_X10_resend (p1 : Int32) (v : VV) (Q : VV → Prop) : Prop :=
  vp_in p1 2 ∧ ∀ x7 : Int32, x7 = v 825 (Int32.toNatClampNeg p1) → vp_in p1 2 ∧ ∀ x13 : Int32, x13 = v 826 (Int32.toNatClampNeg p1) → w_X10_isDue p1 x7 x13 v (fun (x14 : Int32) (v3 : VV) => (x14 = 0 → b_X10_resend_88 p1 Q  p1 v3) ∧ (¬ x14 = 0 → vp_in p1 2 ∧ ∀ x26 : Int32, x26 = v3 829 (Int32.toNatClampNeg p1) → ∀ v5 : VV, v5 = up2 v3 816 63 x26 → ∃ fu : Nat, b_X10_resend_32 p1 Q  fu p1 0 v5))
set_option maxHeartbeats 4000000 in
set_option maxRecDepth 100000 in
/-- TransportFourModel.resend -/
theorem t_X10_resend (l : Launch) (dC : Nat → ClassId) (dI : Nat → Nat → Nat) (base : Nat) (cy : Nat → ClassId) (p1 : Int32) (v : VV) (Q : VV → Prop) (hw : w_X10_resend p1 v Q) : CV l yX10_resend (.code yX10_resend cX10_resend 3 none :: TB) { frames := 5, cells := 0, slots := 0, locals := 113 } dC dI base cy [.ref (base + 816), .int p1] v Q := by
  refine Met.ofW (cc := cX10_resend) (maxL := 3) (ret := none) (by decide) rfl ?_
  intro p e s m args below meth c s₁ B hml hv
  obtain ⟨rfl, hP, hK⟩ := hv
  have hx := B.exec
  have hb := B.bytes
  have hr := B.returns
  have hts0 := atoms_spec (ws := (.code yX10_resend cX10_resend 3 none :: TB)) B.pre
  have hts : ∀ w ∈ TB, w.before ([.ref (base + 816), .int p1]).toArray s = true := fun w h => hts0 w (List.mem_cons_of_mem _ h)
  have hown : s.vm.findClass RX10 = some m.cls := findClass_of_methodNamed B.named
  have hlocks := B.notSynchronized
  have hS : va_S (fun q => base ≤ q) s.heap s.heap [] := va_S.rf
  have hl := lv_entry ([.ref (base + 816), .int p1]) (n := 3) (Nat.le_of_ble_eq_true rfl)
  rw [lg_entry_eq]
  generalize (lg_sl ([.ref (base + 816), .int p1]) ++ List.replicate (3 - (lg_sl ([.ref (base + 816), .int p1])).length) Slot.unset).toArray = ls at hl ⊢
  have hl : lv_has ls 3 [(0, .ref (base + 816)), (1, .int p1)] := hl
  have hret : ∀ (pc : Nat) (v : VV) (H : Heap) (locs : List Loc) (ls : Array Slot), decode cX10_resend pc = .ok (.return_, 1) → Q v → va_P (dC, dI) vwCl (Wd base cy rf v 874) H → va_S (fun q => base ≤ q) s.heap H locs → W p l e { frames := 5, cells := 0, slots := 0, locals := 113 } s m ([.ref (base + 816), .int p1]).toArray below meth c H locs 0 0 (MQ below (va_Qv Q (Hp dC dI base cy) (fun q => base ≤ q)) ([.ref (base + 816), .int p1]).toArray s 0 0 (fun q => base ≤ q)) (F0 m pc ls []) := fun pc v H locs ls hd hq hP hS => W.vret hx hb hr (fun t ht hW => ⟨⟨v, rfl, hq, by rw [ht]; exact hP, va_K.moved hW.alike hK⟩, hS.F ht⟩) hS.2.2 hd
  refine lv_aload_n hx hb dX10_resend_0 rfl (lv_at hl 0 rfl) ?_
  refine lv_iload_n hx hb dX10_resend_1 rfl (lv_at hl 1 rfl) ?_
  refine lv_aload_n hx hb dX10_resend_2 rfl (lv_at hl 0 rfl) ?_
  refine w_gR (C := RX10) (T := TX10) (N := 64) (ci := 10) hx hb hts in10 hown hK hP 9 th10.1 th10 rfl (by decide) (ch10_9 th10).1 (hts _ mf_X10_35) dX10_resend_3 ?_
  refine lv_iload_n hx hb dX10_resend_6 rfl (lv_at hl 1 rfl) ?_
  obtain ⟨hi1, hw⟩ := hw
  refine w_ia (N := 2) hx hb hK hP (ch10_9 th10).2.1.1 (ch10_9 th10).2.1 (ch10_9 th10).2.2 hi1 dX10_resend_7 ?_
  refine lv_topi (fun x7 ex7 => ?_)
  have hw := hw x7 ex7
  refine lv_aload_n hx hb dX10_resend_8 rfl (lv_at hl 0 rfl) ?_
  refine w_gR (C := RX10) (T := TX10) (N := 64) (ci := 10) hx hb hts in10 hown hK hP 10 th10.1 th10 rfl (by decide) (ch10_10 th10).1 (hts _ mf_X10_38) dX10_resend_9 ?_
  refine lv_iload_n hx hb dX10_resend_12 rfl (lv_at hl 1 rfl) ?_
  obtain ⟨hi2, hw⟩ := hw
  refine w_ia (N := 2) hx hb hK hP (ch10_10 th10).2.1.1 (ch10_10 th10).2.1 (ch10_10 th10).2.2 hi2 dX10_resend_13 ?_
  refine lv_topi (fun x13 ex13 => ?_)
  have hw := hw x13 ex13
  refine k_I (As := [.int p1, .int x7, .int x13]) (rest := []) ⟨hx, hb, hml, hown, hts⟩ (t_X10_isDue l dC dI base cy p1 x7 x13 v _ hw) (cwV 3 hts (gV ml_X10_321 mi_X10_isDue mx_X10_isDue mn_X10 mo_X10_isDue) rfl rfl rfl (by decide +kernel) ⟨by decide, by decide⟩) hK hP hS th10 (by decide) rfl rfl hl.1 rfl (Nat.le_of_ble_eq_true rfl) dX10_resend_14 ⟨Nat.zero_le _, Nat.zero_le _⟩ (fun x14 v3 H locs hw hP hS => ?_)
  refine lv_if_eq (tgt := 88) hx hb dX10_resend_17 (by decide) (fun c17 => ?_) (fun c17 => ?_)
  · have hw := hw.1 c17
    exact tb_X10_resend_88 hx hb hml hown hts hK p1 _ hret  p1 v3 _ _ _ hw (lv_sub hl [0, 1] rfl) hP hS
  · have hw := hw.2 c17
    refine lv_aload_n hx hb dX10_resend_20 rfl (lv_at hl 0 rfl) ?_
    refine lv_aload_n hx hb dX10_resend_21 rfl (lv_at hl 0 rfl) ?_
    refine w_gR (C := RX10) (T := TX10) (N := 64) (ci := 10) hx hb hts in10 hown hK hP 13 th10.1 th10 rfl (by decide) (ch10_13 th10).1 (hts _ mf_X10_47) dX10_resend_22 ?_
    refine lv_iload_n hx hb dX10_resend_25 rfl (lv_at hl 1 rfl) ?_
    obtain ⟨hi4, hw⟩ := hw
    refine w_ia (N := 2) hx hb hK hP (ch10_13 th10).2.1.1 (ch10_13 th10).2.1 (ch10_13 th10).2.2 hi4 dX10_resend_26 ?_
    refine lv_topi (fun x26 ex26 => ?_)
    have hw := hw x26 ex26
    refine w_pI (C := RX10) (T := TX10) (N := 64) (ci := 10) hx hb hts in10 tyX10 tyX10_ok nmX10 hown hK hP hS 63 th10.1 th10 rfl (by decide) (hts _ mf_X10_183) rfl (ty := .int) (by decide +kernel) rfl rfl dX10_resend_27 (fun v5 H locs hv5 hP hz hS => ?_)
    have hw := hw v5 hv5
    refine lv_iconst (v := 0) hx hb dX10_resend_30 (by decide) ?_
    refine lv_istore_n (lv' := [(2, .int 0), (0, .ref (base + 816)), (1, .int p1)]) hx hb dX10_resend_31 rfl hl (by decide) rfl (fun ls hl => ?_)
    obtain ⟨fu, hw⟩ := hw
    exact tb_X10_resend_32 hx hb hml hown hts hK p1 _ hret  fu p1 0 v5 _ _ _ hw (lv_sub hl [1, 2, 0] rfl) hP hS
def b_X10_step_67 (p1 : Int32) (Q : VV → Prop) (a1 : Int32) (v : VV) : Prop :=
  vp_in a1 2 ∧ ∀ x72 : Int32, x72 = v 817 (Int32.toNatClampNeg a1) → (¬ x72 = 4 → Q v) ∧ (x72 = 4 → ∀ x78 : Int32, x78 = v 816 0 → vp_in a1 2 ∧ ∀ x86 : Int32, x86 = v 822 (Int32.toNatClampNeg a1) → ∀ x87 : Int32, x87 = x78 - x86 → (x87 < 12 → Q v) ∧ (¬ x87 < 12 → vp_in a1 2 ∧ ∀ v3 : VV, v3 = up2 v 817 (Int32.toNatClampNeg a1) 0 → Q v3))
set_option maxHeartbeats 4000000 in
set_option maxRecDepth 100000 in
theorem tb_X10_step_67 {p : Program} {l : Launch} {e : Env} {s : State} {m : MethodId} {args : Array Value} {below : List Frame} {meth : Method} {c : Code} {QQ : State → Prop} {dC : Nat → ClassId} {dI : Nat → Nat → Nat} {base : Nat} {cy : Nat → ClassId} (hx : p.tables.exec = Jvm.exec) (hb : c.code = cX10_step) (hml : c.maxLocals = 2) (hown : s.vm.findClass RX10 = some m.cls) (hts : ∀ w ∈ TB, w.before args s = true) (hK : va_K (dC, dI) vwCl (tyL cy) s) (p1 : Int32) (Q : VV → Prop) (hret : ∀ (pc : Nat) (v : VV) (H : Heap) (locs : List Loc) (ls : Array Slot), decode cX10_step pc = .ok (.return_, 1) → Q v → va_P (dC, dI) vwCl (Wd base cy rf v 874) H → va_S (fun q => base ≤ q) s.heap H locs → W p l e { frames := 6, cells := 0, slots := 0, locals := 135 } s m args below meth c H locs 0 0 QQ (F0 m pc ls [])) (a1 : Int32) (v : VV) (H : Heap) (locs : List Loc) (ls : Array Slot) (hw : b_X10_step_67 p1 Q  a1 v) : lv_has ls 2 [(0, .ref (base + 816)), (1, .int a1)] → va_P (dC, dI) vwCl (Wd base cy rf v 874) H → va_S (fun q => base ≤ q) s.heap H locs → W p l e { frames := 6, cells := 0, slots := 0, locals := 135 } s m args below meth c H locs 0 0 QQ (F0 m 67 ls []) := by
  intro hl hP hS
  refine lv_aload_n hx hb dX10_step_67 rfl (lv_at hl 0 rfl) ?_
  refine w_gR (C := RX10) (T := TX10) (N := 64) (ci := 10) hx hb hts in10 hown hK hP 1 th10.1 th10 rfl (by decide) (ch10_1 th10).1 (hts _ mf_X10_7) dX10_step_68 ?_
  refine lv_iload_n hx hb dX10_step_71 rfl (lv_at hl 1 rfl) ?_
  obtain ⟨hi1, hw⟩ := hw
  refine w_ia (N := 2) hx hb hK hP (ch10_1 th10).2.1.1 (ch10_1 th10).2.1 (ch10_1 th10).2.2 hi1 dX10_step_72 ?_
  refine lv_topi (fun x72 ex72 => ?_)
  have hw := hw x72 ex72
  refine lv_iconst (v := 4) hx hb dX10_step_73 (by decide) ?_
  refine lv_icmp_ne (tgt := 100) hx hb dX10_step_74 (by decide) (fun c74 => ?_) (fun c74 => ?_)
  · have hw := hw.1 c74
    exact hret _ _ _ _ _ dX10_step_100 hw hP hS
  · have hw := hw.2 c74
    refine lv_aload_n hx hb dX10_step_77 rfl (lv_at hl 0 rfl) ?_
    refine w_gI (C := RX10) (T := TX10) (N := 64) (ci := 10) hx hb hts in10 hown hK hP 0 th10.1 th10 rfl (by decide) (hts _ mf_X10_198) dX10_step_78 ?_
    refine lv_topi (fun x78 ex78 => ?_)
    have hw := hw x78 ex78
    refine lv_aload_n hx hb dX10_step_81 rfl (lv_at hl 0 rfl) ?_
    refine w_gR (C := RX10) (T := TX10) (N := 64) (ci := 10) hx hb hts in10 hown hK hP 6 th10.1 th10 rfl (by decide) (ch10_6 th10).1 (hts _ mf_X10_26) dX10_step_82 ?_
    refine lv_iload_n hx hb dX10_step_85 rfl (lv_at hl 1 rfl) ?_
    obtain ⟨hi2, hw⟩ := hw
    refine w_ia (N := 2) hx hb hK hP (ch10_6 th10).2.1.1 (ch10_6 th10).2.1 (ch10_6 th10).2.2 hi2 dX10_step_86 ?_
    refine lv_topi (fun x86 ex86 => ?_)
    have hw := hw x86 ex86
    refine lv_isub hx hb dX10_step_87 ?_
    refine lv_topi (fun x87 ex87 => ?_)
    have hw := hw x87 ex87
    refine lv_bipush (v := 12) hx hb dX10_step_88 (by decide) ?_
    refine lv_icmp_lt (tgt := 100) hx hb dX10_step_90 (by decide) (fun c90 => ?_) (fun c90 => ?_)
    · have hw := hw.1 c90
      exact hret _ _ _ _ _ dX10_step_100 hw hP hS
    · have hw := hw.2 c90
      refine lv_aload_n hx hb dX10_step_93 rfl (lv_at hl 0 rfl) ?_
      refine w_gR (C := RX10) (T := TX10) (N := 64) (ci := 10) hx hb hts in10 hown hK hP 1 th10.1 th10 rfl (by decide) (ch10_1 th10).1 (hts _ mf_X10_7) dX10_step_94 ?_
      refine lv_iload_n hx hb dX10_step_97 rfl (lv_at hl 1 rfl) ?_
      refine lv_iconst (v := 0) hx hb dX10_step_98 (by decide) ?_
      obtain ⟨hi4, hw⟩ := hw
      refine w_is (N := 2) hx hb hK hP hS (ch10_1 th10).2.1.1 (ch10_1 th10).2.1 (ch10_1 th10).2.2 hi4 dX10_step_99 (fun v3 H locs hv3 hP hz hS => ?_)
      have hw := hw v3 hv3
      exact hret _ _ _ _ _ dX10_step_100 hw hP hS
def b_X10_step_36 (p1 : Int32) (Q : VV → Prop) (a1 : Int32) (v : VV) : Prop :=
  vp_in a1 2 ∧ ∀ x41 : Int32, x41 = v 817 (Int32.toNatClampNeg a1) → (¬ x41 = 2 → b_X10_step_67 p1 Q  a1 v) ∧ (x41 = 2 → ∀ x47 : Int32, x47 = v 816 0 → vp_in a1 2 ∧ ∀ x55 : Int32, x55 = v 823 (Int32.toNatClampNeg a1) → ∀ x56 : Int32, x56 = x47 - x55 → (x56 < 20 → b_X10_step_67 p1 Q  a1 v) ∧ (¬ x56 < 20 → w_X10_sendReceipt a1 v (fun (v3 : VV) => b_X10_step_67 p1 Q  a1 v3)))
set_option maxHeartbeats 4000000 in
set_option maxRecDepth 100000 in
theorem tb_X10_step_36 {p : Program} {l : Launch} {e : Env} {s : State} {m : MethodId} {args : Array Value} {below : List Frame} {meth : Method} {c : Code} {QQ : State → Prop} {dC : Nat → ClassId} {dI : Nat → Nat → Nat} {base : Nat} {cy : Nat → ClassId} (hx : p.tables.exec = Jvm.exec) (hb : c.code = cX10_step) (hml : c.maxLocals = 2) (hown : s.vm.findClass RX10 = some m.cls) (hts : ∀ w ∈ TB, w.before args s = true) (hK : va_K (dC, dI) vwCl (tyL cy) s) (p1 : Int32) (Q : VV → Prop) (hret : ∀ (pc : Nat) (v : VV) (H : Heap) (locs : List Loc) (ls : Array Slot), decode cX10_step pc = .ok (.return_, 1) → Q v → va_P (dC, dI) vwCl (Wd base cy rf v 874) H → va_S (fun q => base ≤ q) s.heap H locs → W p l e { frames := 6, cells := 0, slots := 0, locals := 135 } s m args below meth c H locs 0 0 QQ (F0 m pc ls [])) (a1 : Int32) (v : VV) (H : Heap) (locs : List Loc) (ls : Array Slot) (hw : b_X10_step_36 p1 Q  a1 v) : lv_has ls 2 [(0, .ref (base + 816)), (1, .int a1)] → va_P (dC, dI) vwCl (Wd base cy rf v 874) H → va_S (fun q => base ≤ q) s.heap H locs → W p l e { frames := 6, cells := 0, slots := 0, locals := 135 } s m args below meth c H locs 0 0 QQ (F0 m 36 ls []) := by
  intro hl hP hS
  refine lv_aload_n hx hb dX10_step_36 rfl (lv_at hl 0 rfl) ?_
  refine w_gR (C := RX10) (T := TX10) (N := 64) (ci := 10) hx hb hts in10 hown hK hP 1 th10.1 th10 rfl (by decide) (ch10_1 th10).1 (hts _ mf_X10_7) dX10_step_37 ?_
  refine lv_iload_n hx hb dX10_step_40 rfl (lv_at hl 1 rfl) ?_
  obtain ⟨hi1, hw⟩ := hw
  refine w_ia (N := 2) hx hb hK hP (ch10_1 th10).2.1.1 (ch10_1 th10).2.1 (ch10_1 th10).2.2 hi1 dX10_step_41 ?_
  refine lv_topi (fun x41 ex41 => ?_)
  have hw := hw x41 ex41
  refine lv_iconst (v := 2) hx hb dX10_step_42 (by decide) ?_
  refine lv_icmp_ne (tgt := 67) hx hb dX10_step_43 (by decide) (fun c43 => ?_) (fun c43 => ?_)
  · have hw := hw.1 c43
    exact tb_X10_step_67 hx hb hml hown hts hK p1 _ hret  a1 v _ _ _ hw (lv_sub hl [0, 1] rfl) hP hS
  · have hw := hw.2 c43
    refine lv_aload_n hx hb dX10_step_46 rfl (lv_at hl 0 rfl) ?_
    refine w_gI (C := RX10) (T := TX10) (N := 64) (ci := 10) hx hb hts in10 hown hK hP 0 th10.1 th10 rfl (by decide) (hts _ mf_X10_198) dX10_step_47 ?_
    refine lv_topi (fun x47 ex47 => ?_)
    have hw := hw x47 ex47
    refine lv_aload_n hx hb dX10_step_50 rfl (lv_at hl 0 rfl) ?_
    refine w_gR (C := RX10) (T := TX10) (N := 64) (ci := 10) hx hb hts in10 hown hK hP 7 th10.1 th10 rfl (by decide) (ch10_7 th10).1 (hts _ mf_X10_29) dX10_step_51 ?_
    refine lv_iload_n hx hb dX10_step_54 rfl (lv_at hl 1 rfl) ?_
    obtain ⟨hi2, hw⟩ := hw
    refine w_ia (N := 2) hx hb hK hP (ch10_7 th10).2.1.1 (ch10_7 th10).2.1 (ch10_7 th10).2.2 hi2 dX10_step_55 ?_
    refine lv_topi (fun x55 ex55 => ?_)
    have hw := hw x55 ex55
    refine lv_isub hx hb dX10_step_56 ?_
    refine lv_topi (fun x56 ex56 => ?_)
    have hw := hw x56 ex56
    refine lv_bipush (v := 20) hx hb dX10_step_57 (by decide) ?_
    refine lv_icmp_lt (tgt := 67) hx hb dX10_step_59 (by decide) (fun c59 => ?_) (fun c59 => ?_)
    · have hw := hw.1 c59
      exact tb_X10_step_67 hx hb hml hown hts hK p1 _ hret  a1 v _ _ _ hw (lv_sub hl [0, 1] rfl) hP hS
    · have hw := hw.2 c59
      refine lv_aload_n hx hb dX10_step_62 rfl (lv_at hl 0 rfl) ?_
      refine lv_iload_n hx hb dX10_step_63 rfl (lv_at hl 1 rfl) ?_
      refine k_V (As := [.int a1]) (rest := []) ⟨hx, hb, hml, hown, hts⟩ (t_X10_sendReceipt l dC dI base cy a1 v _ hw) (cwV 1 hts (gV ml_X10_271 mi_X10_sendReceipt mx_X10_sendReceipt mn_X10 mo_X10_sendReceipt) rfl rfl rfl (by decide +kernel) ⟨by decide, by decide⟩) hK hP hS th10 (by decide) rfl rfl hl.1 rfl (Nat.le_of_ble_eq_true rfl) dX10_step_64 ⟨Nat.zero_le _, Nat.zero_le _⟩ (fun v3 H locs hw hP hS => ?_)
      exact tb_X10_step_67 hx hb hml hown hts hK p1 _ hret  a1 v3 _ _ _ hw (lv_sub hl [0, 1] rfl) hP hS
def w_X10_step (p1 : Int32) (v : VV) (Q : VV → Prop) : Prop :=
  w_X10_resend p1 v (fun (v1 : VV) => vp_in p1 2 ∧ ∀ x10 : Int32, x10 = v1 817 (Int32.toNatClampNeg p1) → (¬ x10 = 2 → b_X10_step_36 p1 Q  p1 v1) ∧ (x10 = 2 → ∀ x16 : Int32, x16 = v1 816 0 → vp_in p1 2 ∧ ∀ x24 : Int32, x24 = v1 824 (Int32.toNatClampNeg p1) → ∀ x25 : Int32, x25 = x16 - x24 → (x25 < 50 → b_X10_step_36 p1 Q  p1 v1) ∧ (¬ x25 < 50 → w_X10_giveUp p1 v1 (fun (v4 : VV) => b_X10_step_36 p1 Q  p1 v4))))
set_option maxHeartbeats 4000000 in
set_option maxRecDepth 100000 in
/-- TransportFourModel.step -/
theorem t_X10_step (l : Launch) (dC : Nat → ClassId) (dI : Nat → Nat → Nat) (base : Nat) (cy : Nat → ClassId) (p1 : Int32) (v : VV) (Q : VV → Prop) (hw : w_X10_step p1 v Q) : CV l yX10_step (.code yX10_step cX10_step 2 none :: TB) { frames := 6, cells := 0, slots := 0, locals := 135 } dC dI base cy [.ref (base + 816), .int p1] v Q := by
  refine Met.ofW (cc := cX10_step) (maxL := 2) (ret := none) (by decide) rfl ?_
  intro p e s m args below meth c s₁ B hml hv
  obtain ⟨rfl, hP, hK⟩ := hv
  have hx := B.exec
  have hb := B.bytes
  have hr := B.returns
  have hts0 := atoms_spec (ws := (.code yX10_step cX10_step 2 none :: TB)) B.pre
  have hts : ∀ w ∈ TB, w.before ([.ref (base + 816), .int p1]).toArray s = true := fun w h => hts0 w (List.mem_cons_of_mem _ h)
  have hown : s.vm.findClass RX10 = some m.cls := findClass_of_methodNamed B.named
  have hlocks := B.notSynchronized
  have hS : va_S (fun q => base ≤ q) s.heap s.heap [] := va_S.rf
  have hl := lv_entry ([.ref (base + 816), .int p1]) (n := 2) (Nat.le_of_ble_eq_true rfl)
  rw [lg_entry_eq]
  generalize (lg_sl ([.ref (base + 816), .int p1]) ++ List.replicate (2 - (lg_sl ([.ref (base + 816), .int p1])).length) Slot.unset).toArray = ls at hl ⊢
  have hl : lv_has ls 2 [(0, .ref (base + 816)), (1, .int p1)] := hl
  have hret : ∀ (pc : Nat) (v : VV) (H : Heap) (locs : List Loc) (ls : Array Slot), decode cX10_step pc = .ok (.return_, 1) → Q v → va_P (dC, dI) vwCl (Wd base cy rf v 874) H → va_S (fun q => base ≤ q) s.heap H locs → W p l e { frames := 6, cells := 0, slots := 0, locals := 135 } s m ([.ref (base + 816), .int p1]).toArray below meth c H locs 0 0 (MQ below (va_Qv Q (Hp dC dI base cy) (fun q => base ≤ q)) ([.ref (base + 816), .int p1]).toArray s 0 0 (fun q => base ≤ q)) (F0 m pc ls []) := fun pc v H locs ls hd hq hP hS => W.vret hx hb hr (fun t ht hW => ⟨⟨v, rfl, hq, by rw [ht]; exact hP, va_K.moved hW.alike hK⟩, hS.F ht⟩) hS.2.2 hd
  refine lv_aload_n hx hb dX10_step_0 rfl (lv_at hl 0 rfl) ?_
  refine lv_iload_n hx hb dX10_step_1 rfl (lv_at hl 1 rfl) ?_
  refine k_V (As := [.int p1]) (rest := []) ⟨hx, hb, hml, hown, hts⟩ (t_X10_resend l dC dI base cy p1 v _ hw) (cwV 1 hts (gV ml_X10_325 mi_X10_resend mx_X10_resend mn_X10 mo_X10_resend) rfl rfl rfl (by decide +kernel) ⟨by decide, by decide⟩) hK hP hS th10 (by decide) rfl rfl hl.1 rfl (Nat.le_of_ble_eq_true rfl) dX10_step_2 ⟨Nat.zero_le _, Nat.zero_le _⟩ (fun v1 H locs hw hP hS => ?_)
  refine lv_aload_n hx hb dX10_step_5 rfl (lv_at hl 0 rfl) ?_
  refine w_gR (C := RX10) (T := TX10) (N := 64) (ci := 10) hx hb hts in10 hown hK hP 1 th10.1 th10 rfl (by decide) (ch10_1 th10).1 (hts _ mf_X10_7) dX10_step_6 ?_
  refine lv_iload_n hx hb dX10_step_9 rfl (lv_at hl 1 rfl) ?_
  obtain ⟨hi2, hw⟩ := hw
  refine w_ia (N := 2) hx hb hK hP (ch10_1 th10).2.1.1 (ch10_1 th10).2.1 (ch10_1 th10).2.2 hi2 dX10_step_10 ?_
  refine lv_topi (fun x10 ex10 => ?_)
  have hw := hw x10 ex10
  refine lv_iconst (v := 2) hx hb dX10_step_11 (by decide) ?_
  refine lv_icmp_ne (tgt := 36) hx hb dX10_step_12 (by decide) (fun c12 => ?_) (fun c12 => ?_)
  · have hw := hw.1 c12
    exact tb_X10_step_36 hx hb hml hown hts hK p1 _ hret  p1 v1 _ _ _ hw (lv_sub hl [0, 1] rfl) hP hS
  · have hw := hw.2 c12
    refine lv_aload_n hx hb dX10_step_15 rfl (lv_at hl 0 rfl) ?_
    refine w_gI (C := RX10) (T := TX10) (N := 64) (ci := 10) hx hb hts in10 hown hK hP 0 th10.1 th10 rfl (by decide) (hts _ mf_X10_198) dX10_step_16 ?_
    refine lv_topi (fun x16 ex16 => ?_)
    have hw := hw x16 ex16
    refine lv_aload_n hx hb dX10_step_19 rfl (lv_at hl 0 rfl) ?_
    refine w_gR (C := RX10) (T := TX10) (N := 64) (ci := 10) hx hb hts in10 hown hK hP 8 th10.1 th10 rfl (by decide) (ch10_8 th10).1 (hts _ mf_X10_32) dX10_step_20 ?_
    refine lv_iload_n hx hb dX10_step_23 rfl (lv_at hl 1 rfl) ?_
    obtain ⟨hi3, hw⟩ := hw
    refine w_ia (N := 2) hx hb hK hP (ch10_8 th10).2.1.1 (ch10_8 th10).2.1 (ch10_8 th10).2.2 hi3 dX10_step_24 ?_
    refine lv_topi (fun x24 ex24 => ?_)
    have hw := hw x24 ex24
    refine lv_isub hx hb dX10_step_25 ?_
    refine lv_topi (fun x25 ex25 => ?_)
    have hw := hw x25 ex25
    refine lv_bipush (v := 50) hx hb dX10_step_26 (by decide) ?_
    refine lv_icmp_lt (tgt := 36) hx hb dX10_step_28 (by decide) (fun c28 => ?_) (fun c28 => ?_)
    · have hw := hw.1 c28
      exact tb_X10_step_36 hx hb hml hown hts hK p1 _ hret  p1 v1 _ _ _ hw (lv_sub hl [0, 1] rfl) hP hS
    · have hw := hw.2 c28
      refine lv_aload_n hx hb dX10_step_31 rfl (lv_at hl 0 rfl) ?_
      refine lv_iload_n hx hb dX10_step_32 rfl (lv_at hl 1 rfl) ?_
      refine k_V (As := [.int p1]) (rest := []) ⟨hx, hb, hml, hown, hts⟩ (t_X10_giveUp l dC dI base cy p1 v1 _ hw) (cwV 1 hts (gV ml_X10_318 mi_X10_giveUp mx_X10_giveUp mn_X10 mo_X10_giveUp) rfl rfl rfl (by decide +kernel) ⟨by decide, by decide⟩) hK hP hS th10 (by decide) rfl rfl hl.1 rfl (Nat.le_of_ble_eq_true rfl) dX10_step_33 ⟨Nat.zero_le _, Nat.zero_le _⟩ (fun v4 H locs hw hP hS => ?_)
      exact tb_X10_step_36 hx hb hml hown hts hK p1 _ hret  p1 v4 _ _ _ hw (lv_sub hl [0, 1] rfl) hP hS
def b_X10_tick_30 (p1 : Int32) (Q : Int32 → VV → Prop) (fu : Nat) : Int32 → Int32 → VV → Prop :=
  Nat.rec (motive := fun _ => Int32 → Int32 → VV → Prop) (fun _ _ _ => False) (fun _ ih a1 a2 v => (a1 ≤ a2 → ∀ x66 : Int32, x66 = v 816 0 → Q x66 v) ∧ (¬ a1 ≤ a2 → ∀ x37 : Int32, x37 = v 816 0 → ∀ x41 : Int32, x41 = x37 + 1 → ∀ v1 : VV, v1 = up2 v 816 0 x41 → w_X10_arriveAll  v1 (fun (v2 : VV) => w_X10_step 0 v2 (fun (v3 : VV) => w_X10_step 1 v3 (fun (v4 : VV) => ∀ x59 : Int32, x59 = a2 + 1 → ih a1 x59 v4))))) fu
set_option maxHeartbeats 4000000 in
set_option maxRecDepth 100000 in
theorem tb_X10_tick_30 {p : Program} {l : Launch} {e : Env} {s : State} {m : MethodId} {args : Array Value} {below : List Frame} {meth : Method} {c : Code} {QQ : State → Prop} {dC : Nat → ClassId} {dI : Nat → Nat → Nat} {base : Nat} {cy : Nat → ClassId} (hx : p.tables.exec = Jvm.exec) (hb : c.code = cX10_tick) (hml : c.maxLocals = 3) (hown : s.vm.findClass RX10 = some m.cls) (hts : ∀ w ∈ TB, w.before args s = true) (hK : va_K (dC, dI) vwCl (tyL cy) s) (p1 : Int32) (Q : Int32 → VV → Prop) (hret : ∀ (pc : Nat) (x : Int32) (v : VV) (H : Heap) (locs : List Loc) (ls : Array Slot), decode cX10_tick pc = .ok (.ireturn, 1) → Q x v → va_P (dC, dI) vwCl (Wd base cy rf v 874) H → va_S (fun q => base ≤ q) s.heap H locs → W p l e { frames := 8, cells := 0, slots := 0, locals := 187 } s m args below meth c H locs 0 0 QQ (F0 m pc ls [.int x])) : ∀ (fu : Nat) (a1 : Int32) (a2 : Int32) (v : VV) (H : Heap) (locs : List Loc) (ls : Array Slot), b_X10_tick_30 p1 Q  fu a1 a2 v → lv_has ls 3 [(0, .ref (base + 816)), (1, .int a1), (2, .int a2)] → va_P (dC, dI) vwCl (Wd base cy rf v 874) H → va_S (fun q => base ≤ q) s.heap H locs → W p l e { frames := 8, cells := 0, slots := 0, locals := 187 } s m args below meth c H locs 0 0 QQ (F0 m 30 ls []) := by
  intro fu
  induction fu with
  | zero =>
    intro a1 a2 v H locs ls hw hl hP hS
    exact hw.elim
  | succ fu ih =>
    intro a1 a2 v H locs ls hw hl hP hS
    refine lv_iload_n hx hb dX10_tick_30 rfl (lv_at hl 2 rfl) ?_
    refine lv_iload_n hx hb dX10_tick_31 rfl (lv_at hl 1 rfl) ?_
    refine lv_icmp_ge (tgt := 65) hx hb dX10_tick_32 (by decide) (fun c32 => ?_) (fun c32 => ?_)
    · have hw := hw.1 c32
      refine lv_aload_n hx hb dX10_tick_65 rfl (lv_at hl 0 rfl) ?_
      refine w_gI (C := RX10) (T := TX10) (N := 64) (ci := 10) hx hb hts in10 hown hK hP 0 th10.1 th10 rfl (by decide) (hts _ mf_X10_198) dX10_tick_66 ?_
      refine lv_topi (fun x66 ex66 => ?_)
      have hw := hw x66 ex66
      exact hret _ _ _ _ _ _ dX10_tick_69 hw hP hS
    · have hw := hw.2 c32
      refine lv_aload_n hx hb dX10_tick_35 rfl (lv_at hl 0 rfl) ?_
      refine lv_dup hx hb dX10_tick_36 rfl ?_
      refine w_gI (C := RX10) (T := TX10) (N := 64) (ci := 10) hx hb hts in10 hown hK hP 0 th10.1 th10 rfl (by decide) (hts _ mf_X10_198) dX10_tick_37 ?_
      refine lv_topi (fun x37 ex37 => ?_)
      have hw := hw x37 ex37
      refine lv_iconst (v := 1) hx hb dX10_tick_40 (by decide) ?_
      refine lv_iadd hx hb dX10_tick_41 ?_
      refine lv_topi (fun x41 ex41 => ?_)
      have hw := hw x41 ex41
      refine w_pI (C := RX10) (T := TX10) (N := 64) (ci := 10) hx hb hts in10 tyX10 tyX10_ok nmX10 hown hK hP hS 0 th10.1 th10 rfl (by decide) (hts _ mf_X10_198) rfl (ty := .int) (by decide +kernel) rfl rfl dX10_tick_42 (fun v1 H locs hv1 hP hz hS => ?_)
      have hw := hw v1 hv1
      refine lv_aload_n hx hb dX10_tick_45 rfl (lv_at hl 0 rfl) ?_
      refine k_V (As := []) (rest := []) ⟨hx, hb, hml, hown, hts⟩ (t_X10_arriveAll l dC dI base cy  v1 _ hw) (cwV 0 hts (gV ml_X10_328 mi_X10_arriveAll mx_X10_arriveAll mn_X10 mo_X10_arriveAll) rfl rfl rfl (by decide +kernel) ⟨by decide, by decide⟩) hK hP hS th10 (by decide) rfl rfl hl.1 rfl (Nat.le_of_ble_eq_true rfl) dX10_tick_46 ⟨Nat.zero_le _, Nat.zero_le _⟩ (fun v2 H locs hw hP hS => ?_)
      refine lv_aload_n hx hb dX10_tick_49 rfl (lv_at hl 0 rfl) ?_
      refine lv_iconst (v := 0) hx hb dX10_tick_50 (by decide) ?_
      refine k_V (As := [.int 0]) (rest := []) ⟨hx, hb, hml, hown, hts⟩ (t_X10_step l dC dI base cy 0 v2 _ hw) (cwV 1 hts (gV ml_X10_331 mi_X10_step mx_X10_step mn_X10 mo_X10_step) rfl rfl rfl (by decide +kernel) ⟨by decide, by decide⟩) hK hP hS th10 (by decide) rfl rfl hl.1 rfl (Nat.le_of_ble_eq_true rfl) dX10_tick_51 ⟨Nat.zero_le _, Nat.zero_le _⟩ (fun v3 H locs hw hP hS => ?_)
      refine lv_aload_n hx hb dX10_tick_54 rfl (lv_at hl 0 rfl) ?_
      refine lv_iconst (v := 1) hx hb dX10_tick_55 (by decide) ?_
      refine k_V (As := [.int 1]) (rest := []) ⟨hx, hb, hml, hown, hts⟩ (t_X10_step l dC dI base cy 1 v3 _ hw) (cwV 1 hts (gV ml_X10_331 mi_X10_step mx_X10_step mn_X10 mo_X10_step) rfl rfl rfl (by decide +kernel) ⟨by decide, by decide⟩) hK hP hS th10 (by decide) rfl rfl hl.1 rfl (Nat.le_of_ble_eq_true rfl) dX10_tick_56 ⟨Nat.zero_le _, Nat.zero_le _⟩ (fun v4 H locs hw hP hS => ?_)
      obtain ⟨x59, ex59⟩ : ∃ y : Int32, y = a2 + 1 := ⟨_, rfl⟩
      have hw := hw x59 ex59
      refine lv_iinc (v := x59) (lv' := [(2, .int x59), (0, .ref (base + 816)), (1, .int a1)]) hx hb dX10_tick_59 hl (k := 2) rfl (by rw [ex59]; first | rfl | (rw [show Int32.ofInt (-1) = (-1 : Int32) from by decide])) (by decide) rfl (fun ls hl => ?_)
      refine lv_goto (tgt := 30) hx hb dX10_tick_62 (by decide) ?_
      exact ih a1 x59 v4 _ _ _ hw (lv_sub hl [1, 2, 0] rfl) hP hS
def b_X10_tick_11 (p1 : Int32) (Q : Int32 → VV → Prop) (a1 : Int32) (v : VV) : Prop :=
  Q ((-1)) v
set_option maxHeartbeats 4000000 in
set_option maxRecDepth 100000 in
theorem tb_X10_tick_11 {p : Program} {l : Launch} {e : Env} {s : State} {m : MethodId} {args : Array Value} {below : List Frame} {meth : Method} {c : Code} {QQ : State → Prop} {dC : Nat → ClassId} {dI : Nat → Nat → Nat} {base : Nat} {cy : Nat → ClassId} (hx : p.tables.exec = Jvm.exec) (hb : c.code = cX10_tick) (hml : c.maxLocals = 3) (hown : s.vm.findClass RX10 = some m.cls) (hts : ∀ w ∈ TB, w.before args s = true) (hK : va_K (dC, dI) vwCl (tyL cy) s) (p1 : Int32) (Q : Int32 → VV → Prop) (hret : ∀ (pc : Nat) (x : Int32) (v : VV) (H : Heap) (locs : List Loc) (ls : Array Slot), decode cX10_tick pc = .ok (.ireturn, 1) → Q x v → va_P (dC, dI) vwCl (Wd base cy rf v 874) H → va_S (fun q => base ≤ q) s.heap H locs → W p l e { frames := 8, cells := 0, slots := 0, locals := 187 } s m args below meth c H locs 0 0 QQ (F0 m pc ls [.int x])) (a1 : Int32) (v : VV) (H : Heap) (locs : List Loc) (ls : Array Slot) (hw : b_X10_tick_11 p1 Q  a1 v) : lv_has ls 3 [(0, .ref (base + 816)), (1, .int a1)] → va_P (dC, dI) vwCl (Wd base cy rf v 874) H → va_S (fun q => base ≤ q) s.heap H locs → W p l e { frames := 8, cells := 0, slots := 0, locals := 187 } s m args below meth c H locs 0 0 QQ (F0 m 11 ls []) := by
  intro hl hP hS
  refine lv_iconst (v := -1) hx hb dX10_tick_11 (by decide) ?_
  exact hret _ _ _ _ _ _ dX10_tick_12 hw hP hS
def w_X10_tick (p1 : Int32) (v : VV) (Q : Int32 → VV → Prop) : Prop :=
  (p1 < 1 → b_X10_tick_11 p1 Q  p1 v) ∧ (¬ p1 < 1 → (p1 ≤ 20 → ∀ x14 : Int32, x14 = v 816 0 → ∀ x18 : Int32, x18 = x14 + p1 → (x18 ≤ 3000 → ∃ fu : Nat, b_X10_tick_30 p1 Q  fu p1 0 v) ∧ (¬ x18 ≤ 3000 → Q ((-3)) v)) ∧ (¬ p1 ≤ 20 → b_X10_tick_11 p1 Q  p1 v))
set_option maxHeartbeats 4000000 in
set_option maxRecDepth 100000 in
/-- TransportFourModel.tick -/
theorem t_X10_tick (l : Launch) (dC : Nat → ClassId) (dI : Nat → Nat → Nat) (base : Nat) (cy : Nat → ClassId) (p1 : Int32) (v : VV) (Q : Int32 → VV → Prop) (hw : w_X10_tick p1 v Q) : CI l yX10_tick (.code yX10_tick cX10_tick 3 (some .int) :: TB) { frames := 8, cells := 0, slots := 0, locals := 187 } dC dI base cy [.ref (base + 816), .int p1] v Q := by
  refine Met.ofW (cc := cX10_tick) (maxL := 3) (ret := (some .int)) (by decide) rfl ?_
  intro p e s m args below meth c s₁ B hml hv
  obtain ⟨rfl, hP, hK⟩ := hv
  have hx := B.exec
  have hb := B.bytes
  have hr := B.returns
  have hts0 := atoms_spec (ws := (.code yX10_tick cX10_tick 3 (some .int) :: TB)) B.pre
  have hts : ∀ w ∈ TB, w.before ([.ref (base + 816), .int p1]).toArray s = true := fun w h => hts0 w (List.mem_cons_of_mem _ h)
  have hown : s.vm.findClass RX10 = some m.cls := findClass_of_methodNamed B.named
  have hlocks := B.notSynchronized
  have hS : va_S (fun q => base ≤ q) s.heap s.heap [] := va_S.rf
  have hl := lv_entry ([.ref (base + 816), .int p1]) (n := 3) (Nat.le_of_ble_eq_true rfl)
  rw [lg_entry_eq]
  generalize (lg_sl ([.ref (base + 816), .int p1]) ++ List.replicate (3 - (lg_sl ([.ref (base + 816), .int p1])).length) Slot.unset).toArray = ls at hl ⊢
  have hl : lv_has ls 3 [(0, .ref (base + 816)), (1, .int p1)] := hl
  have hret : ∀ (pc : Nat) (x : Int32) (v : VV) (H : Heap) (locs : List Loc) (ls : Array Slot), decode cX10_tick pc = .ok (.ireturn, 1) → Q x v → va_P (dC, dI) vwCl (Wd base cy rf v 874) H → va_S (fun q => base ≤ q) s.heap H locs → W p l e { frames := 8, cells := 0, slots := 0, locals := 187 } s m ([.ref (base + 816), .int p1]).toArray below meth c H locs 0 0 (MQ below (va_Qi Q (Hp dC dI base cy) (fun q => base ≤ q)) ([.ref (base + 816), .int p1]).toArray s 0 0 (fun q => base ≤ q)) (F0 m pc ls [.int x]) := fun pc x v H locs ls hd hq hP hS => W.iret (v := x) hx hb hr (fun t ht hW => ⟨⟨x, v, rfl, hq, by rw [ht]; exact hP, va_K.moved hW.alike hK⟩, hS.F ht⟩) hS.2.2 hd
  refine lv_iload_n hx hb dX10_tick_0 rfl (lv_at hl 1 rfl) ?_
  refine lv_iconst (v := 1) hx hb dX10_tick_1 (by decide) ?_
  refine lv_icmp_lt (tgt := 11) hx hb dX10_tick_2 (by decide) (fun c2 => ?_) (fun c2 => ?_)
  · have hw := hw.1 c2
    exact tb_X10_tick_11 hx hb hml hown hts hK p1 _ hret  p1 v _ _ _ hw (lv_sub hl [0, 1] rfl) hP hS
  · have hw := hw.2 c2
    refine lv_iload_n hx hb dX10_tick_5 rfl (lv_at hl 1 rfl) ?_
    refine lv_bipush (v := 20) hx hb dX10_tick_6 (by decide) ?_
    refine lv_icmp_le (tgt := 13) hx hb dX10_tick_8 (by decide) (fun c8 => ?_) (fun c8 => ?_)
    · have hw := hw.1 c8
      refine lv_aload_n hx hb dX10_tick_13 rfl (lv_at hl 0 rfl) ?_
      refine w_gI (C := RX10) (T := TX10) (N := 64) (ci := 10) hx hb hts in10 hown hK hP 0 th10.1 th10 rfl (by decide) (hts _ mf_X10_198) dX10_tick_14 ?_
      refine lv_topi (fun x14 ex14 => ?_)
      have hw := hw x14 ex14
      refine lv_iload_n hx hb dX10_tick_17 rfl (lv_at hl 1 rfl) ?_
      refine lv_iadd hx hb dX10_tick_18 ?_
      refine lv_topi (fun x18 ex18 => ?_)
      have hw := hw x18 ex18
      refine lv_sipush (v := 3000) hx hb dX10_tick_19 (by decide) ?_
      refine lv_icmp_le (tgt := 28) hx hb dX10_tick_22 (by decide) (fun c22 => ?_) (fun c22 => ?_)
      · have hw := hw.1 c22
        refine lv_iconst (v := 0) hx hb dX10_tick_28 (by decide) ?_
        refine lv_istore_n (lv' := [(2, .int 0), (0, .ref (base + 816)), (1, .int p1)]) hx hb dX10_tick_29 rfl hl (by decide) rfl (fun ls hl => ?_)
        obtain ⟨fu, hw⟩ := hw
        exact tb_X10_tick_30 hx hb hml hown hts hK p1 _ hret  fu p1 0 v _ _ _ hw (lv_sub hl [1, 2, 0] rfl) hP hS
      · have hw := hw.2 c22
        refine lv_bipush (v := -3) hx hb dX10_tick_25 (by decide) ?_
        exact hret _ _ _ _ _ _ dX10_tick_27 hw hP hS
    · have hw := hw.2 c8
      exact tb_X10_tick_11 hx hb hml hown hts hK p1 _ hret  p1 v _ _ _ hw (lv_sub hl [0, 1] rfl) hP hS
