def b_X10_send_141 (p1 : Int32) (Q : Int32 → VV → Prop) (K62 : Int32 → Int32 → Int32 → VV → Prop) (fu : Nat) : Int32 → Int32 → Int32 → Int32 → Int32 → Int32 → VV → Prop :=
  Nat.rec (motive := fun _ => Int32 → Int32 → Int32 → Int32 → Int32 → Int32 → VV → Prop) (fun _ _ _ _ _ _ _ => False) (fun _ ih a1 a2 a3 a4 a5 a6 v => (a5 ≤ a6 → vp_in a1 2 ∧ ∀ x185 : Int32, x185 = v 830 (Int32.toNatClampNeg a1) → ∀ x187 : Int32, x187 = x185 + 1 → vp_in a1 2 ∧ ∀ v2 : VV, v2 = up2 v 830 (Int32.toNatClampNeg a1) x187 → ∀ x189 : Int32, x189 = a3 + 1 → K62 a1 a2 x189 v2) ∧ (¬ a5 ≤ a6 → ∀ x156 : Int32, x156 = 8 * a4 → ∀ x159 : Int32, x159 = x156 + a6 → ∀ x167 : Int32, x167 = 8 * a3 → ∀ x170 : Int32, x170 = x167 + a6 → vp_in x170 64 ∧ ∀ x171 : Int32, x171 = v 863 (Int32.toNatClampNeg x170) → vp_in x159 640 ∧ ∀ v5 : VV, v5 = up2 v 837 (Int32.toNatClampNeg x159) x171 → ∀ x173 : Int32, x173 = a6 + 1 → ih a1 a2 a3 a4 a5 x173 v5)) fu
set_option maxHeartbeats 4000000 in
set_option maxRecDepth 100000 in
theorem tb_X10_send_141 {p : Program} {l : Launch} {e : Env} {s : State} {m : MethodId} {args : Array Value} {below : List Frame} {meth : Method} {c : Code} {QQ : State → Prop} {dC : Nat → ClassId} {dI : Nat → Nat → Nat} {base : Nat} {cy : Nat → ClassId} (hx : p.tables.exec = Jvm.exec) (hb : c.code = cX10_send) (hml : c.maxLocals = 7) (hown : s.vm.findClass RX10 = some m.cls) (hts : ∀ w ∈ TB, w.before args s = true) (hK : va_K (dC, dI) vwCl (tyL cy) s) (p1 : Int32) (Q : Int32 → VV → Prop) (hret : ∀ (pc : Nat) (x : Int32) (v : VV) (H : Heap) (locs : List Loc) (ls : Array Slot), decode cX10_send pc = .ok (.ireturn, 1) → Q x v → va_P (dC, dI) vwCl (Wd base cy rf v 874) H → va_S (fun q => base ≤ q) s.heap H locs → W p l e { frames := 4, cells := 0, slots := 0, locals := 90 } s m args below meth c H locs 0 0 QQ (F0 m pc ls [.int x])) (K62 : Int32 → Int32 → Int32 → VV → Prop) (hK62 : ∀ (a1 : Int32) (a2 : Int32) (a3 : Int32) (v : VV) (H : Heap) (locs : List Loc) (ls : Array Slot), K62 a1 a2 a3 v → lv_has ls 7 [(0, .ref (base + 816)), (1, .int a1), (2, .int a2), (3, .int a3)] → va_P (dC, dI) vwCl (Wd base cy rf v 874) H → va_S (fun q => base ≤ q) s.heap H locs → W p l e { frames := 4, cells := 0, slots := 0, locals := 90 } s m args below meth c H locs 0 0 QQ (F0 m 62 ls [])) : ∀ (fu : Nat) (a1 : Int32) (a2 : Int32) (a3 : Int32) (a4 : Int32) (a5 : Int32) (a6 : Int32) (v : VV) (H : Heap) (locs : List Loc) (ls : Array Slot), b_X10_send_141 p1 Q K62 fu a1 a2 a3 a4 a5 a6 v → lv_has ls 7 [(0, .ref (base + 816)), (1, .int a1), (2, .int a2), (3, .int a3), (4, .int a4), (5, .int a5), (6, .int a6)] → va_P (dC, dI) vwCl (Wd base cy rf v 874) H → va_S (fun q => base ≤ q) s.heap H locs → W p l e { frames := 4, cells := 0, slots := 0, locals := 90 } s m args below meth c H locs 0 0 QQ (F0 m 141 ls []) := by
  intro fu
  induction fu with
  | zero =>
    intro a1 a2 a3 a4 a5 a6 v H locs ls hw hl hP hS
    exact hw.elim
  | succ fu ih =>
    intro a1 a2 a3 a4 a5 a6 v H locs ls hw hl hP hS
    refine lv_iload hx hb dX10_send_141 (lv_at hl 6 rfl) ?_
    refine lv_iload hx hb dX10_send_143 (lv_at hl 5 rfl) ?_
    refine lv_icmp_ge (tgt := 179) hx hb dX10_send_145 (by decide) (fun c145 => ?_) (fun c145 => ?_)
    · have hw := hw.1 c145
      refine lv_aload_n hx hb dX10_send_179 rfl (lv_at hl 0 rfl) ?_
      refine w_gR (C := RX10) (T := TX10) (N := 64) (ci := 10) hx hb hts in10 hown hK hP 14 th10.1 th10 rfl (by decide) (ch10_14 th10).1 (hts _ mf_X10_50) dX10_send_180 ?_
      refine lv_iload_n hx hb dX10_send_183 rfl (lv_at hl 1 rfl) ?_
      refine lv_dup2_11 hx hb dX10_send_184 rfl rfl ?_
      obtain ⟨hi1, hw⟩ := hw
      refine w_ia (N := 2) hx hb hK hP (ch10_14 th10).2.1.1 (ch10_14 th10).2.1 (ch10_14 th10).2.2 hi1 dX10_send_185 ?_
      refine lv_topi (fun x185 ex185 => ?_)
      have hw := hw x185 ex185
      refine lv_iconst (v := 1) hx hb dX10_send_186 (by decide) ?_
      refine lv_iadd hx hb dX10_send_187 ?_
      refine lv_topi (fun x187 ex187 => ?_)
      have hw := hw x187 ex187
      obtain ⟨hi3, hw⟩ := hw
      refine w_is (N := 2) hx hb hK hP hS (ch10_14 th10).2.1.1 (ch10_14 th10).2.1 (ch10_14 th10).2.2 hi3 dX10_send_188 (fun v2 H locs hv2 hP hz hS => ?_)
      have hw := hw v2 hv2
      obtain ⟨x189, ex189⟩ : ∃ y : Int32, y = a3 + 1 := ⟨_, rfl⟩
      have hw := hw x189 ex189
      refine lv_iinc (v := x189) (lv' := [(3, .int x189), (0, .ref (base + 816)), (1, .int a1), (2, .int a2), (4, .int a4), (5, .int a5), (6, .int a6)]) hx hb dX10_send_189 hl (k := 3) rfl (by rw [ex189]; first | rfl | (rw [show Int32.ofInt (-1) = (-1 : Int32) from by decide])) (by decide) rfl (fun ls hl => ?_)
      refine lv_goto (tgt := 62) hx hb dX10_send_192 (by decide) ?_
      exact hK62 a1 a2 x189 v2 _ _ _ hw (lv_sub hl [1, 2, 3, 0] rfl) hP hS
    · have hw := hw.2 c145
      refine lv_aload_n hx hb dX10_send_148 rfl (lv_at hl 0 rfl) ?_
      refine w_gR (C := RX10) (T := TX10) (N := 64) (ci := 10) hx hb hts in10 hown hK hP 21 th10.1 th10 rfl (by decide) (ch10_21 th10).1 (hts _ mf_X10_71) dX10_send_149 ?_
      refine lv_bipush (v := 8) hx hb dX10_send_152 (by decide) ?_
      refine lv_iload hx hb dX10_send_154 (lv_at hl 4 rfl) ?_
      refine lv_imul hx hb dX10_send_156 ?_
      refine lv_topi (fun x156 ex156 => ?_)
      have hw := hw x156 ex156
      refine lv_iload hx hb dX10_send_157 (lv_at hl 6 rfl) ?_
      refine lv_iadd hx hb dX10_send_159 ?_
      refine lv_topi (fun x159 ex159 => ?_)
      have hw := hw x159 ex159
      refine lv_aload_n hx hb dX10_send_160 rfl (lv_at hl 0 rfl) ?_
      refine w_gR (C := RX10) (T := TX10) (N := 64) (ci := 10) hx hb hts in10 hown hK hP 47 th10.1 th10 rfl (by decide) (ch10_47 th10).1 (hts _ mf_X10_149) dX10_send_161 ?_
      refine lv_bipush (v := 8) hx hb dX10_send_164 (by decide) ?_
      refine lv_iload_n hx hb dX10_send_166 rfl (lv_at hl 3 rfl) ?_
      refine lv_imul hx hb dX10_send_167 ?_
      refine lv_topi (fun x167 ex167 => ?_)
      have hw := hw x167 ex167
      refine lv_iload hx hb dX10_send_168 (lv_at hl 6 rfl) ?_
      refine lv_iadd hx hb dX10_send_170 ?_
      refine lv_topi (fun x170 ex170 => ?_)
      have hw := hw x170 ex170
      obtain ⟨hi4, hw⟩ := hw
      refine w_ia (N := 64) hx hb hK hP (ch10_47 th10).2.1.1 (ch10_47 th10).2.1 (ch10_47 th10).2.2 hi4 dX10_send_171 ?_
      refine lv_topi (fun x171 ex171 => ?_)
      have hw := hw x171 ex171
      obtain ⟨hi6, hw⟩ := hw
      refine w_is (N := 640) hx hb hK hP hS (ch10_21 th10).2.1.1 (ch10_21 th10).2.1 (ch10_21 th10).2.2 hi6 dX10_send_172 (fun v5 H locs hv5 hP hz hS => ?_)
      have hw := hw v5 hv5
      obtain ⟨x173, ex173⟩ : ∃ y : Int32, y = a6 + 1 := ⟨_, rfl⟩
      have hw := hw x173 ex173
      refine lv_iinc (v := x173) (lv' := [(6, .int x173), (0, .ref (base + 816)), (1, .int a1), (2, .int a2), (3, .int a3), (4, .int a4), (5, .int a5)]) hx hb dX10_send_173 hl (k := 6) rfl (by rw [ex173]; first | rfl | (rw [show Int32.ofInt (-1) = (-1 : Int32) from by decide])) (by decide) rfl (fun ls hl => ?_)
      refine lv_goto (tgt := 141) hx hb dX10_send_176 (by decide) ?_
      exact ih a1 a2 a3 a4 a5 x173 v5 _ _ _ hw (lv_sub hl [1, 2, 3, 4, 5, 6, 0] rfl) hP hS
def b_X10_send_137 (p1 : Int32) (Q : Int32 → VV → Prop) (K62 : Int32 → Int32 → Int32 → VV → Prop) (a1 : Int32) (a2 : Int32) (a3 : Int32) (a4 : Int32) (a5 : Int32) (s0 : Int32) (s1 : Int32) (v : VV) : Prop :=
  vp_in s1 80 ∧ ∀ v1 : VV, v1 = up2 v 833 (Int32.toNatClampNeg s1) (vp_nar .boolean s0) → ∃ fu : Nat, b_X10_send_141 p1 Q K62 fu a1 a2 a3 a4 a5 0 v1
set_option maxHeartbeats 4000000 in
set_option maxRecDepth 100000 in
theorem tb_X10_send_137 {p : Program} {l : Launch} {e : Env} {s : State} {m : MethodId} {args : Array Value} {below : List Frame} {meth : Method} {c : Code} {QQ : State → Prop} {dC : Nat → ClassId} {dI : Nat → Nat → Nat} {base : Nat} {cy : Nat → ClassId} (hx : p.tables.exec = Jvm.exec) (hb : c.code = cX10_send) (hml : c.maxLocals = 7) (hown : s.vm.findClass RX10 = some m.cls) (hts : ∀ w ∈ TB, w.before args s = true) (hK : va_K (dC, dI) vwCl (tyL cy) s) (p1 : Int32) (Q : Int32 → VV → Prop) (hret : ∀ (pc : Nat) (x : Int32) (v : VV) (H : Heap) (locs : List Loc) (ls : Array Slot), decode cX10_send pc = .ok (.ireturn, 1) → Q x v → va_P (dC, dI) vwCl (Wd base cy rf v 874) H → va_S (fun q => base ≤ q) s.heap H locs → W p l e { frames := 4, cells := 0, slots := 0, locals := 90 } s m args below meth c H locs 0 0 QQ (F0 m pc ls [.int x])) (K62 : Int32 → Int32 → Int32 → VV → Prop) (hK62 : ∀ (a1 : Int32) (a2 : Int32) (a3 : Int32) (v : VV) (H : Heap) (locs : List Loc) (ls : Array Slot), K62 a1 a2 a3 v → lv_has ls 7 [(0, .ref (base + 816)), (1, .int a1), (2, .int a2), (3, .int a3)] → va_P (dC, dI) vwCl (Wd base cy rf v 874) H → va_S (fun q => base ≤ q) s.heap H locs → W p l e { frames := 4, cells := 0, slots := 0, locals := 90 } s m args below meth c H locs 0 0 QQ (F0 m 62 ls [])) (a1 : Int32) (a2 : Int32) (a3 : Int32) (a4 : Int32) (a5 : Int32) (s0 : Int32) (s1 : Int32) (v : VV) (H : Heap) (locs : List Loc) (ls : Array Slot) (hw : b_X10_send_137 p1 Q K62 a1 a2 a3 a4 a5 s0 s1 v) : lv_has ls 7 [(0, .ref (base + 816)), (1, .int a1), (2, .int a2), (3, .int a3), (4, .int a4), (5, .int a5)] → va_P (dC, dI) vwCl (Wd base cy rf v 874) H → va_S (fun q => base ≤ q) s.heap H locs → W p l e { frames := 4, cells := 0, slots := 0, locals := 90 } s m args below meth c H locs 0 0 QQ (F0 m 137 ls [.int s0, .int s1, .ref (base + 833)]) := by
  intro hl hP hS
  obtain ⟨hi2, hw⟩ := hw
  refine w_zs (N := 80) hx hb hK hP hS (ch10_17 th10).2.1.1 (ch10_17 th10).2.1 (ch10_17 th10).2.2 hi2 dX10_send_137 (fun v1 H locs hv1 hP hz hS => ?_)
  have hw := hw v1 hv1
  refine lv_iconst (v := 0) hx hb dX10_send_138 (by decide) ?_
  refine lv_istore (lv' := [(6, .int 0), (0, .ref (base + 816)), (1, .int a1), (2, .int a2), (3, .int a3), (4, .int a4), (5, .int a5)]) hx hb dX10_send_139 hl (by decide) rfl (fun ls hl => ?_)
  obtain ⟨fu, hw⟩ := hw
  exact tb_X10_send_141 hx hb hml hown hts hK p1 _ hret K62 hK62 fu a1 a2 a3 a4 a5 0 v1 _ _ _ hw (lv_sub hl [1, 2, 3, 4, 5, 6, 0] rfl) hP hS
def b_X10_send_108 (p1 : Int32) (Q : Int32 → VV → Prop) (K62 : Int32 → Int32 → Int32 → VV → Prop) (a1 : Int32) (a2 : Int32) (a3 : Int32) (a4 : Int32) (s0 : Int32) (v : VV) : Prop :=
  vp_in a4 80 ∧ ∀ v1 : VV, v1 = up2 v 832 (Int32.toNatClampNeg a4) s0 → ∀ x127 : Int32, x127 = a3 + 1 → (¬ x127 = a2 → b_X10_send_137 p1 Q K62 a1 a2 a3 a4 s0 0 a4 v1) ∧ (x127 = a2 → b_X10_send_137 p1 Q K62 a1 a2 a3 a4 s0 1 a4 v1)
set_option maxHeartbeats 4000000 in
set_option maxRecDepth 100000 in
theorem tb_X10_send_108 {p : Program} {l : Launch} {e : Env} {s : State} {m : MethodId} {args : Array Value} {below : List Frame} {meth : Method} {c : Code} {QQ : State → Prop} {dC : Nat → ClassId} {dI : Nat → Nat → Nat} {base : Nat} {cy : Nat → ClassId} (hx : p.tables.exec = Jvm.exec) (hb : c.code = cX10_send) (hml : c.maxLocals = 7) (hown : s.vm.findClass RX10 = some m.cls) (hts : ∀ w ∈ TB, w.before args s = true) (hK : va_K (dC, dI) vwCl (tyL cy) s) (p1 : Int32) (Q : Int32 → VV → Prop) (hret : ∀ (pc : Nat) (x : Int32) (v : VV) (H : Heap) (locs : List Loc) (ls : Array Slot), decode cX10_send pc = .ok (.ireturn, 1) → Q x v → va_P (dC, dI) vwCl (Wd base cy rf v 874) H → va_S (fun q => base ≤ q) s.heap H locs → W p l e { frames := 4, cells := 0, slots := 0, locals := 90 } s m args below meth c H locs 0 0 QQ (F0 m pc ls [.int x])) (K62 : Int32 → Int32 → Int32 → VV → Prop) (hK62 : ∀ (a1 : Int32) (a2 : Int32) (a3 : Int32) (v : VV) (H : Heap) (locs : List Loc) (ls : Array Slot), K62 a1 a2 a3 v → lv_has ls 7 [(0, .ref (base + 816)), (1, .int a1), (2, .int a2), (3, .int a3)] → va_P (dC, dI) vwCl (Wd base cy rf v 874) H → va_S (fun q => base ≤ q) s.heap H locs → W p l e { frames := 4, cells := 0, slots := 0, locals := 90 } s m args below meth c H locs 0 0 QQ (F0 m 62 ls [])) (a1 : Int32) (a2 : Int32) (a3 : Int32) (a4 : Int32) (s0 : Int32) (v : VV) (H : Heap) (locs : List Loc) (ls : Array Slot) (hw : b_X10_send_108 p1 Q K62 a1 a2 a3 a4 s0 v) : lv_has ls 7 [(0, .ref (base + 816)), (1, .int a1), (2, .int a2), (3, .int a3), (4, .int a4)] → va_P (dC, dI) vwCl (Wd base cy rf v 874) H → va_S (fun q => base ≤ q) s.heap H locs → W p l e { frames := 4, cells := 0, slots := 0, locals := 90 } s m args below meth c H locs 0 0 QQ (F0 m 108 ls [.int s0]) := by
  intro hl hP hS
  refine lv_istore (lv' := [(5, .int s0), (0, .ref (base + 816)), (1, .int a1), (2, .int a2), (3, .int a3), (4, .int a4)]) hx hb dX10_send_108 hl (by decide) rfl (fun ls hl => ?_)
  refine lv_aload_n hx hb dX10_send_110 rfl (lv_at hl 1 rfl) ?_
  refine w_gR (C := RX10) (T := TX10) (N := 64) (ci := 10) hx hb hts in10 hown hK hP 16 th10.1 th10 rfl (by decide) (ch10_16 th10).1 (hts _ mf_X10_56) dX10_send_111 ?_
  refine lv_iload hx hb dX10_send_114 (lv_at hl 5 rfl) ?_
  refine lv_iload hx hb dX10_send_116 (lv_at hl 0 rfl) ?_
  obtain ⟨hi2, hw⟩ := hw
  refine w_is (N := 80) hx hb hK hP hS (ch10_16 th10).2.1.1 (ch10_16 th10).2.1 (ch10_16 th10).2.2 hi2 dX10_send_118 (fun v1 H locs hv1 hP hz hS => ?_)
  have hw := hw v1 hv1
  refine lv_aload_n hx hb dX10_send_119 rfl (lv_at hl 1 rfl) ?_
  refine w_gR (C := RX10) (T := TX10) (N := 64) (ci := 10) hx hb hts in10 hown hK hP 17 th10.1 th10 rfl (by decide) (ch10_17 th10).1 (hts _ mf_X10_59) dX10_send_120 ?_
  refine lv_iload hx hb dX10_send_123 (lv_at hl 5 rfl) ?_
  refine lv_iload_n hx hb dX10_send_125 rfl (lv_at hl 4 rfl) ?_
  refine lv_iconst (v := 1) hx hb dX10_send_126 (by decide) ?_
  refine lv_iadd hx hb dX10_send_127 ?_
  refine lv_topi (fun x127 ex127 => ?_)
  have hw := hw x127 ex127
  refine lv_iload_n hx hb dX10_send_128 rfl (lv_at hl 3 rfl) ?_
  refine lv_icmp_ne (tgt := 136) hx hb dX10_send_129 (by decide) (fun c129 => ?_) (fun c129 => ?_)
  · have hw := hw.1 c129
    refine lv_iconst (v := 0) hx hb dX10_send_136 (by decide) ?_
    exact tb_X10_send_137 hx hb hml hown hts hK p1 _ hret K62 hK62 a1 a2 a3 a4 s0 0 a4 v1 _ _ _ hw (lv_sub hl [1, 2, 3, 4, 5, 0] rfl) hP hS
  · have hw := hw.2 c129
    refine lv_iconst (v := 1) hx hb dX10_send_132 (by decide) ?_
    refine lv_goto (tgt := 137) hx hb dX10_send_133 (by decide) ?_
    exact tb_X10_send_137 hx hb hml hown hts hK p1 _ hret K62 hK62 a1 a2 a3 a4 s0 1 a4 v1 _ _ _ hw (lv_sub hl [1, 2, 3, 4, 5, 0] rfl) hP hS
def b_X10_send_62 (p1 : Int32) (Q : Int32 → VV → Prop) (fu : Nat) : Int32 → Int32 → Int32 → VV → Prop :=
  Nat.rec (motive := fun _ => Int32 → Int32 → Int32 → VV → Prop) (fun _ _ _ _ => False) (fun _ ih a1 a2 a3 v => (a2 ≤ a3 → ∀ v1 : VV, v1 = up2 v 816 48 0 → w_X10_goOn a1 v1 (fun (v2 : VV) => vp_in a1 2 ∧ ∀ x210 : Int32, x210 = v2 830 (Int32.toNatClampNeg a1) → Q x210 v2)) ∧ (¬ a2 ≤ a3 → ∀ x70 : Int32, x70 = 40 * a1 → vp_in a1 2 ∧ ∀ x76 : Int32, x76 = v 830 (Int32.toNatClampNeg a1) → ∀ x77 : Int32, x77 = x70 + x76 → ∀ x81 : Int32, x81 = v 816 48 → ∀ x87 : Int32, x87 = 8 * a3 → ∀ x88 : Int32, x88 = x81 - x87 → (8 ≤ x88 → b_X10_send_108 p1 Q ih a1 a2 a3 x77 8 v) ∧ (¬ 8 ≤ x88 → ∀ x95 : Int32, x95 = v 816 48 → ∀ x101 : Int32, x101 = 8 * a3 → ∀ x102 : Int32, x102 = x95 - x101 → b_X10_send_108 p1 Q ih a1 a2 a3 x77 x102 v))) fu
set_option maxHeartbeats 4000000 in
set_option maxRecDepth 100000 in
theorem tb_X10_send_62 {p : Program} {l : Launch} {e : Env} {s : State} {m : MethodId} {args : Array Value} {below : List Frame} {meth : Method} {c : Code} {QQ : State → Prop} {dC : Nat → ClassId} {dI : Nat → Nat → Nat} {base : Nat} {cy : Nat → ClassId} (hx : p.tables.exec = Jvm.exec) (hb : c.code = cX10_send) (hml : c.maxLocals = 7) (hown : s.vm.findClass RX10 = some m.cls) (hts : ∀ w ∈ TB, w.before args s = true) (hK : va_K (dC, dI) vwCl (tyL cy) s) (p1 : Int32) (Q : Int32 → VV → Prop) (hret : ∀ (pc : Nat) (x : Int32) (v : VV) (H : Heap) (locs : List Loc) (ls : Array Slot), decode cX10_send pc = .ok (.ireturn, 1) → Q x v → va_P (dC, dI) vwCl (Wd base cy rf v 874) H → va_S (fun q => base ≤ q) s.heap H locs → W p l e { frames := 4, cells := 0, slots := 0, locals := 90 } s m args below meth c H locs 0 0 QQ (F0 m pc ls [.int x])) : ∀ (fu : Nat) (a1 : Int32) (a2 : Int32) (a3 : Int32) (v : VV) (H : Heap) (locs : List Loc) (ls : Array Slot), b_X10_send_62 p1 Q  fu a1 a2 a3 v → lv_has ls 7 [(0, .ref (base + 816)), (1, .int a1), (2, .int a2), (3, .int a3)] → va_P (dC, dI) vwCl (Wd base cy rf v 874) H → va_S (fun q => base ≤ q) s.heap H locs → W p l e { frames := 4, cells := 0, slots := 0, locals := 90 } s m args below meth c H locs 0 0 QQ (F0 m 62 ls []) := by
  intro fu
  induction fu with
  | zero =>
    intro a1 a2 a3 v H locs ls hw hl hP hS
    exact hw.elim
  | succ fu ih =>
    intro a1 a2 a3 v H locs ls hw hl hP hS
    refine lv_iload_n hx hb dX10_send_62 rfl (lv_at hl 3 rfl) ?_
    refine lv_iload_n hx hb dX10_send_63 rfl (lv_at hl 2 rfl) ?_
    refine lv_icmp_ge (tgt := 195) hx hb dX10_send_64 (by decide) (fun c64 => ?_) (fun c64 => ?_)
    · have hw := hw.1 c64
      refine lv_aload_n hx hb dX10_send_195 rfl (lv_at hl 0 rfl) ?_
      refine lv_iconst (v := 0) hx hb dX10_send_196 (by decide) ?_
      refine w_pI (C := RX10) (T := TX10) (N := 64) (ci := 10) hx hb hts in10 tyX10 tyX10_ok nmX10 hown hK hP hS 48 th10.1 th10 rfl (by decide) (hts _ mf_X10_251) rfl (ty := .int) (by decide +kernel) rfl rfl dX10_send_197 (fun v1 H locs hv1 hP hz hS => ?_)
      have hw := hw v1 hv1
      refine lv_aload_n hx hb dX10_send_200 rfl (lv_at hl 0 rfl) ?_
      refine lv_iload_n hx hb dX10_send_201 rfl (lv_at hl 1 rfl) ?_
      refine k_V (As := [.int a1]) (rest := []) ⟨hx, hb, hml, hown, hts⟩ (t_X10_goOn l dC dI base cy a1 v1 _ hw) (cwV 1 hts (gV ml_X10_256 mi_X10_goOn mx_X10_goOn mn_X10 mo_X10_goOn) rfl rfl rfl (by decide +kernel) ⟨by decide, by decide⟩) hK hP hS th10 (by decide) rfl rfl hl.1 rfl (Nat.le_of_ble_eq_true rfl) dX10_send_202 ⟨Nat.zero_le _, Nat.zero_le _⟩ (fun v2 H locs hw hP hS => ?_)
      refine lv_aload_n hx hb dX10_send_205 rfl (lv_at hl 0 rfl) ?_
      refine w_gR (C := RX10) (T := TX10) (N := 64) (ci := 10) hx hb hts in10 hown hK hP 14 th10.1 th10 rfl (by decide) (ch10_14 th10).1 (hts _ mf_X10_50) dX10_send_206 ?_
      refine lv_iload_n hx hb dX10_send_209 rfl (lv_at hl 1 rfl) ?_
      obtain ⟨hi3, hw⟩ := hw
      refine w_ia (N := 2) hx hb hK hP (ch10_14 th10).2.1.1 (ch10_14 th10).2.1 (ch10_14 th10).2.2 hi3 dX10_send_210 ?_
      refine lv_topi (fun x210 ex210 => ?_)
      have hw := hw x210 ex210
      exact hret _ _ _ _ _ _ dX10_send_211 hw hP hS
    · have hw := hw.2 c64
      refine lv_bipush (v := 40) hx hb dX10_send_67 (by decide) ?_
      refine lv_iload_n hx hb dX10_send_69 rfl (lv_at hl 1 rfl) ?_
      refine lv_imul hx hb dX10_send_70 ?_
      refine lv_topi (fun x70 ex70 => ?_)
      have hw := hw x70 ex70
      refine lv_aload_n hx hb dX10_send_71 rfl (lv_at hl 0 rfl) ?_
      refine w_gR (C := RX10) (T := TX10) (N := 64) (ci := 10) hx hb hts in10 hown hK hP 14 th10.1 th10 rfl (by decide) (ch10_14 th10).1 (hts _ mf_X10_50) dX10_send_72 ?_
      refine lv_iload_n hx hb dX10_send_75 rfl (lv_at hl 1 rfl) ?_
      obtain ⟨hi4, hw⟩ := hw
      refine w_ia (N := 2) hx hb hK hP (ch10_14 th10).2.1.1 (ch10_14 th10).2.1 (ch10_14 th10).2.2 hi4 dX10_send_76 ?_
      refine lv_topi (fun x76 ex76 => ?_)
      have hw := hw x76 ex76
      refine lv_iadd hx hb dX10_send_77 ?_
      refine lv_topi (fun x77 ex77 => ?_)
      have hw := hw x77 ex77
      refine lv_istore (lv' := [(4, .int x77), (0, .ref (base + 816)), (1, .int a1), (2, .int a2), (3, .int a3)]) hx hb dX10_send_78 hl (by decide) rfl (fun ls hl => ?_)
      refine lv_aload_n hx hb dX10_send_80 rfl (lv_at hl 1 rfl) ?_
      refine w_gI (C := RX10) (T := TX10) (N := 64) (ci := 10) hx hb hts in10 hown hK hP 48 th10.1 th10 rfl (by decide) (hts _ mf_X10_251) dX10_send_81 ?_
      refine lv_topi (fun x81 ex81 => ?_)
      have hw := hw x81 ex81
      refine lv_bipush (v := 8) hx hb dX10_send_84 (by decide) ?_
      refine lv_iload_n hx hb dX10_send_86 rfl (lv_at hl 4 rfl) ?_
      refine lv_imul hx hb dX10_send_87 ?_
      refine lv_topi (fun x87 ex87 => ?_)
      have hw := hw x87 ex87
      refine lv_isub hx hb dX10_send_88 ?_
      refine lv_topi (fun x88 ex88 => ?_)
      have hw := hw x88 ex88
      refine lv_bipush (v := 8) hx hb dX10_send_89 (by decide) ?_
      refine lv_icmp_ge (tgt := 106) hx hb dX10_send_91 (by decide) (fun c91 => ?_) (fun c91 => ?_)
      · have hw := hw.1 c91
        refine lv_bipush (v := 8) hx hb dX10_send_106 (by decide) ?_
        exact tb_X10_send_108 hx hb hml hown hts hK p1 _ hret _ ih a1 a2 a3 x77 8 v _ _ _ hw (lv_sub hl [1, 2, 3, 4, 0] rfl) hP hS
      · have hw := hw.2 c91
        refine lv_aload_n hx hb dX10_send_94 rfl (lv_at hl 1 rfl) ?_
        refine w_gI (C := RX10) (T := TX10) (N := 64) (ci := 10) hx hb hts in10 hown hK hP 48 th10.1 th10 rfl (by decide) (hts _ mf_X10_251) dX10_send_95 ?_
        refine lv_topi (fun x95 ex95 => ?_)
        have hw := hw x95 ex95
        refine lv_bipush (v := 8) hx hb dX10_send_98 (by decide) ?_
        refine lv_iload_n hx hb dX10_send_100 rfl (lv_at hl 4 rfl) ?_
        refine lv_imul hx hb dX10_send_101 ?_
        refine lv_topi (fun x101 ex101 => ?_)
        have hw := hw x101 ex101
        refine lv_isub hx hb dX10_send_102 ?_
        refine lv_topi (fun x102 ex102 => ?_)
        have hw := hw x102 ex102
        refine lv_goto (tgt := 108) hx hb dX10_send_103 (by decide) ?_
        exact tb_X10_send_108 hx hb hml hown hts hK p1 _ hret _ ih a1 a2 a3 x77 x102 v _ _ _ hw (lv_sub hl [1, 2, 3, 4, 0] rfl) hP hS
def b_X10_send_43 (p1 : Int32) (Q : Int32 → VV → Prop) (a1 : Int32) (s0 : Int32) (v : VV) : Prop :=
  vp_in a1 2 ∧ ∀ x49 : Int32, x49 = v 830 (Int32.toNatClampNeg a1) → ∀ x51 : Int32, x51 = x49 + s0 → (x51 ≤ 40 → ∃ fu : Nat, b_X10_send_62 p1 Q  fu a1 s0 0 v) ∧ (¬ x51 ≤ 40 → Q ((-3)) v)
set_option maxHeartbeats 4000000 in
set_option maxRecDepth 100000 in
theorem tb_X10_send_43 {p : Program} {l : Launch} {e : Env} {s : State} {m : MethodId} {args : Array Value} {below : List Frame} {meth : Method} {c : Code} {QQ : State → Prop} {dC : Nat → ClassId} {dI : Nat → Nat → Nat} {base : Nat} {cy : Nat → ClassId} (hx : p.tables.exec = Jvm.exec) (hb : c.code = cX10_send) (hml : c.maxLocals = 7) (hown : s.vm.findClass RX10 = some m.cls) (hts : ∀ w ∈ TB, w.before args s = true) (hK : va_K (dC, dI) vwCl (tyL cy) s) (p1 : Int32) (Q : Int32 → VV → Prop) (hret : ∀ (pc : Nat) (x : Int32) (v : VV) (H : Heap) (locs : List Loc) (ls : Array Slot), decode cX10_send pc = .ok (.ireturn, 1) → Q x v → va_P (dC, dI) vwCl (Wd base cy rf v 874) H → va_S (fun q => base ≤ q) s.heap H locs → W p l e { frames := 4, cells := 0, slots := 0, locals := 90 } s m args below meth c H locs 0 0 QQ (F0 m pc ls [.int x])) (a1 : Int32) (s0 : Int32) (v : VV) (H : Heap) (locs : List Loc) (ls : Array Slot) (hw : b_X10_send_43 p1 Q  a1 s0 v) : lv_has ls 7 [(0, .ref (base + 816)), (1, .int a1)] → va_P (dC, dI) vwCl (Wd base cy rf v 874) H → va_S (fun q => base ≤ q) s.heap H locs → W p l e { frames := 4, cells := 0, slots := 0, locals := 90 } s m args below meth c H locs 0 0 QQ (F0 m 43 ls [.int s0]) := by
  intro hl hP hS
  refine lv_istore_n (lv' := [(2, .int s0), (0, .ref (base + 816)), (1, .int a1)]) hx hb dX10_send_43 rfl hl (by decide) rfl (fun ls hl => ?_)
  refine lv_aload_n hx hb dX10_send_44 rfl (lv_at hl 1 rfl) ?_
  refine w_gR (C := RX10) (T := TX10) (N := 64) (ci := 10) hx hb hts in10 hown hK hP 14 th10.1 th10 rfl (by decide) (ch10_14 th10).1 (hts _ mf_X10_50) dX10_send_45 ?_
  refine lv_iload_n hx hb dX10_send_48 rfl (lv_at hl 2 rfl) ?_
  obtain ⟨hi1, hw⟩ := hw
  refine w_ia (N := 2) hx hb hK hP (ch10_14 th10).2.1.1 (ch10_14 th10).2.1 (ch10_14 th10).2.2 hi1 dX10_send_49 ?_
  refine lv_topi (fun x49 ex49 => ?_)
  have hw := hw x49 ex49
  refine lv_iload_n hx hb dX10_send_50 rfl (lv_at hl 0 rfl) ?_
  refine lv_iadd hx hb dX10_send_51 ?_
  refine lv_topi (fun x51 ex51 => ?_)
  have hw := hw x51 ex51
  refine lv_bipush (v := 40) hx hb dX10_send_52 (by decide) ?_
  refine lv_icmp_le (tgt := 60) hx hb dX10_send_54 (by decide) (fun c54 => ?_) (fun c54 => ?_)
  · have hw := hw.1 c54
    refine lv_iconst (v := 0) hx hb dX10_send_60 (by decide) ?_
    refine lv_istore_n (lv' := [(3, .int 0), (2, .int s0), (0, .ref (base + 816)), (1, .int a1)]) hx hb dX10_send_61 rfl hl (by decide) rfl (fun ls hl => ?_)
    obtain ⟨fu, hw⟩ := hw
    exact tb_X10_send_62 hx hb hml hown hts hK p1 _ hret  fu a1 s0 0 v _ _ _ hw (lv_sub hl [2, 3, 1, 0] rfl) hP hS
  · have hw := hw.2 c54
    refine lv_bipush (v := -3) hx hb dX10_send_57 (by decide) ?_
    exact hret _ _ _ _ _ _ dX10_send_59 hw hP hS
def w_X10_send (p1 : Int32) (v : VV) (Q : Int32 → VV → Prop) : Prop :=
  w_X10_isEnd p1 v (fun (x1 : Int32) (v1 : VV) => (¬ x1 = 0 → vp_in p1 2 ∧ ∀ x14 : Int32, x14 = v1 817 (Int32.toNatClampNeg p1) → (x14 = 2 → ∀ x23 : Int32, x23 = v1 816 48 → (¬ x23 = 0 → ∀ x34 : Int32, x34 = v1 816 48 → ∀ x39 : Int32, x39 = x34 + 7 → ∀ x42 : Int32, x42 = x39 / 8 → b_X10_send_43 p1 Q  p1 x42 v1) ∧ (x23 = 0 → b_X10_send_43 p1 Q  p1 1 v1)) ∧ (¬ x14 = 2 → Q ((-2)) v1)) ∧ (x1 = 0 → Q ((-1)) v1))
set_option maxHeartbeats 4000000 in
set_option maxRecDepth 100000 in
/-- TransportFourModel.send -/
theorem t_X10_send (l : Launch) (dC : Nat → ClassId) (dI : Nat → Nat → Nat) (base : Nat) (cy : Nat → ClassId) (p1 : Int32) (v : VV) (Q : Int32 → VV → Prop) (hw : w_X10_send p1 v Q) : CI l yX10_send (.code yX10_send cX10_send 7 (some .int) :: TB) { frames := 4, cells := 0, slots := 0, locals := 90 } dC dI base cy [.ref (base + 816), .int p1] v Q := by
  refine Met.ofW (cc := cX10_send) (maxL := 7) (ret := (some .int)) (by decide) rfl ?_
  intro p e s m args below meth c s₁ B hml hv
  obtain ⟨rfl, hP, hK⟩ := hv
  have hx := B.exec
  have hb := B.bytes
  have hr := B.returns
  have hts0 := atoms_spec (ws := (.code yX10_send cX10_send 7 (some .int) :: TB)) B.pre
  have hts : ∀ w ∈ TB, w.before ([.ref (base + 816), .int p1]).toArray s = true := fun w h => hts0 w (List.mem_cons_of_mem _ h)
  have hown : s.vm.findClass RX10 = some m.cls := findClass_of_methodNamed B.named
  have hlocks := B.notSynchronized
  have hS : va_S (fun q => base ≤ q) s.heap s.heap [] := va_S.rf
  have hl := lv_entry ([.ref (base + 816), .int p1]) (n := 7) (Nat.le_of_ble_eq_true rfl)
  rw [lg_entry_eq]
  generalize (lg_sl ([.ref (base + 816), .int p1]) ++ List.replicate (7 - (lg_sl ([.ref (base + 816), .int p1])).length) Slot.unset).toArray = ls at hl ⊢
  have hl : lv_has ls 7 [(0, .ref (base + 816)), (1, .int p1)] := hl
  have hret : ∀ (pc : Nat) (x : Int32) (v : VV) (H : Heap) (locs : List Loc) (ls : Array Slot), decode cX10_send pc = .ok (.ireturn, 1) → Q x v → va_P (dC, dI) vwCl (Wd base cy rf v 874) H → va_S (fun q => base ≤ q) s.heap H locs → W p l e { frames := 4, cells := 0, slots := 0, locals := 90 } s m ([.ref (base + 816), .int p1]).toArray below meth c H locs 0 0 (MQ below (va_Qi Q (Hp dC dI base cy) (fun q => base ≤ q)) ([.ref (base + 816), .int p1]).toArray s 0 0 (fun q => base ≤ q)) (F0 m pc ls [.int x]) := fun pc x v H locs ls hd hq hP hS => W.iret (v := x) hx hb hr (fun t ht hW => ⟨⟨x, v, rfl, hq, by rw [ht]; exact hP, va_K.moved hW.alike hK⟩, hS.F ht⟩) hS.2.2 hd
  refine lv_iload_n hx hb dX10_send_0 rfl (lv_at hl 1 rfl) ?_
  refine kS_I (As := [.int p1]) (rest := []) ⟨hx, hb, hml, hown, hts⟩ (t_X10_isEnd l dC dI base cy p1 v _ hw) (cwS 1 hts (gS ml_X10_231 mt_X10_isEnd mn_X10 mo_X10_isEnd) rfl rfl rfl (by decide +kernel) ⟨by decide, by decide⟩) hK hP hS rfl hl.1 rfl (Nat.le_of_ble_eq_true rfl) dX10_send_1 ⟨Nat.zero_le _, Nat.zero_le _⟩ (fun x1 v1 H locs hw hP hS => ?_)
  refine lv_if_ne (tgt := 9) hx hb dX10_send_4 (by decide) (fun c4 => ?_) (fun c4 => ?_)
  · have hw := hw.1 c4
    refine lv_aload_n hx hb dX10_send_9 rfl (lv_at hl 0 rfl) ?_
    refine w_gR (C := RX10) (T := TX10) (N := 64) (ci := 10) hx hb hts in10 hown hK hP 1 th10.1 th10 rfl (by decide) (ch10_1 th10).1 (hts _ mf_X10_7) dX10_send_10 ?_
    refine lv_iload_n hx hb dX10_send_13 rfl (lv_at hl 1 rfl) ?_
    obtain ⟨hi2, hw⟩ := hw
    refine w_ia (N := 2) hx hb hK hP (ch10_1 th10).2.1.1 (ch10_1 th10).2.1 (ch10_1 th10).2.2 hi2 dX10_send_14 ?_
    refine lv_topi (fun x14 ex14 => ?_)
    have hw := hw x14 ex14
    refine lv_iconst (v := 2) hx hb dX10_send_15 (by decide) ?_
    refine lv_icmp_eq (tgt := 22) hx hb dX10_send_16 (by decide) (fun c16 => ?_) (fun c16 => ?_)
    · have hw := hw.1 c16
      refine lv_aload_n hx hb dX10_send_22 rfl (lv_at hl 0 rfl) ?_
      refine w_gI (C := RX10) (T := TX10) (N := 64) (ci := 10) hx hb hts in10 hown hK hP 48 th10.1 th10 rfl (by decide) (hts _ mf_X10_251) dX10_send_23 ?_
      refine lv_topi (fun x23 ex23 => ?_)
      have hw := hw x23 ex23
      refine lv_if_ne (tgt := 33) hx hb dX10_send_26 (by decide) (fun c26 => ?_) (fun c26 => ?_)
      · have hw := hw.1 c26
        refine lv_aload_n hx hb dX10_send_33 rfl (lv_at hl 0 rfl) ?_
        refine w_gI (C := RX10) (T := TX10) (N := 64) (ci := 10) hx hb hts in10 hown hK hP 48 th10.1 th10 rfl (by decide) (hts _ mf_X10_251) dX10_send_34 ?_
        refine lv_topi (fun x34 ex34 => ?_)
        have hw := hw x34 ex34
        refine lv_bipush (v := 7) hx hb dX10_send_37 (by decide) ?_
        refine lv_iadd hx hb dX10_send_39 ?_
        refine lv_topi (fun x39 ex39 => ?_)
        have hw := hw x39 ex39
        refine lv_bipush (v := 8) hx hb dX10_send_40 (by decide) ?_
        refine lv_idiv hx hb dX10_send_42 (by decide) ?_
        refine lv_topi (fun x42 ex42 => ?_)
        have hw := hw x42 ex42
        exact tb_X10_send_43 hx hb hml hown hts hK p1 _ hret  p1 x42 v1 _ _ _ hw (lv_sub hl [0, 1] rfl) hP hS
      · have hw := hw.2 c26
        refine lv_iconst (v := 1) hx hb dX10_send_29 (by decide) ?_
        refine lv_goto (tgt := 43) hx hb dX10_send_30 (by decide) ?_
        exact tb_X10_send_43 hx hb hml hown hts hK p1 _ hret  p1 1 v1 _ _ _ hw (lv_sub hl [0, 1] rfl) hP hS
    · have hw := hw.2 c16
      refine lv_bipush (v := -2) hx hb dX10_send_19 (by decide) ?_
      exact hret _ _ _ _ _ _ dX10_send_21 hw hP hS
  · have hw := hw.2 c4
    refine lv_iconst (v := -1) hx hb dX10_send_7 (by decide) ?_
    exact hret _ _ _ _ _ _ dX10_send_8 hw hP hS
def b_X10_urge_18 (p1 : Int32) (p2 : Int32) (Q : Int32 → VV → Prop) (a1 : Int32) (a2 : Int32) (v : VV) : Prop :=
  Q ((-1)) v
set_option maxHeartbeats 4000000 in
set_option maxRecDepth 100000 in
theorem tb_X10_urge_18 {p : Program} {l : Launch} {e : Env} {s : State} {m : MethodId} {args : Array Value} {below : List Frame} {meth : Method} {c : Code} {QQ : State → Prop} {dC : Nat → ClassId} {dI : Nat → Nat → Nat} {base : Nat} {cy : Nat → ClassId} (hx : p.tables.exec = Jvm.exec) (hb : c.code = cX10_urge) (hml : c.maxLocals = 3) (hown : s.vm.findClass RX10 = some m.cls) (hts : ∀ w ∈ TB, w.before args s = true) (hK : va_K (dC, dI) vwCl (tyL cy) s) (p1 : Int32) (p2 : Int32) (Q : Int32 → VV → Prop) (hret : ∀ (pc : Nat) (x : Int32) (v : VV) (H : Heap) (locs : List Loc) (ls : Array Slot), decode cX10_urge pc = .ok (.ireturn, 1) → Q x v → va_P (dC, dI) vwCl (Wd base cy rf v 874) H → va_S (fun q => base ≤ q) s.heap H locs → W p l e { frames := 4, cells := 0, slots := 0, locals := 90 } s m args below meth c H locs 0 0 QQ (F0 m pc ls [.int x])) (a1 : Int32) (a2 : Int32) (v : VV) (H : Heap) (locs : List Loc) (ls : Array Slot) (hw : b_X10_urge_18 p1 p2 Q  a1 a2 v) : lv_has ls 3 [(0, .ref (base + 816)), (1, .int a1), (2, .int a2)] → va_P (dC, dI) vwCl (Wd base cy rf v 874) H → va_S (fun q => base ≤ q) s.heap H locs → W p l e { frames := 4, cells := 0, slots := 0, locals := 90 } s m args below meth c H locs 0 0 QQ (F0 m 18 ls []) := by
  intro hl hP hS
  refine lv_iconst (v := -1) hx hb dX10_urge_18 (by decide) ?_
  exact hret _ _ _ _ _ _ dX10_urge_19 hw hP hS
def w_X10_urge (p1 : Int32) (p2 : Int32) (v : VV) (Q : Int32 → VV → Prop) : Prop :=
  w_X10_isEnd p1 v (fun (x1 : Int32) (v1 : VV) => (x1 = 0 → b_X10_urge_18 p1 p2 Q  p1 p2 v1) ∧ (¬ x1 = 0 → (p2 < 0 → b_X10_urge_18 p1 p2 Q  p1 p2 v1) ∧ (¬ p2 < 0 → (p2 ≤ 255 → vp_in p1 2 ∧ ∀ x25 : Int32, x25 = v1 817 (Int32.toNatClampNeg p1) → (x25 = 2 → vp_in p1 2 ∧ ∀ x38 : Int32, x38 = v1 841 (Int32.toNatClampNeg p1) → (¬ x38 = 8 → ∀ x54 : Int32, x54 = 8 * p1 → vp_in p1 2 ∧ ∀ x60 : Int32, x60 = v1 841 (Int32.toNatClampNeg p1) → ∀ x61 : Int32, x61 = x54 + x60 → vp_in x61 16 ∧ ∀ v5 : VV, v5 = up2 v1 842 (Int32.toNatClampNeg x61) p2 → vp_in p1 2 ∧ ∀ x70 : Int32, x70 = v5 841 (Int32.toNatClampNeg p1) → ∀ x72 : Int32, x72 = x70 + 1 → vp_in p1 2 ∧ ∀ v8 : VV, v8 = up2 v5 841 (Int32.toNatClampNeg p1) x72 → w_X10_goOn p1 v8 (fun (v10 : VV) => vp_in p1 2 ∧ ∀ x84 : Int32, x84 = v10 841 (Int32.toNatClampNeg p1) → Q x84 v10)) ∧ (x38 = 8 → Q ((-3)) v1)) ∧ (¬ x25 = 2 → Q ((-2)) v1)) ∧ (¬ p2 ≤ 255 → b_X10_urge_18 p1 p2 Q  p1 p2 v1))))
set_option maxHeartbeats 4000000 in
set_option maxRecDepth 100000 in
/-- TransportFourModel.urge -/
theorem t_X10_urge (l : Launch) (dC : Nat → ClassId) (dI : Nat → Nat → Nat) (base : Nat) (cy : Nat → ClassId) (p1 : Int32) (p2 : Int32) (v : VV) (Q : Int32 → VV → Prop) (hw : w_X10_urge p1 p2 v Q) : CI l yX10_urge (.code yX10_urge cX10_urge 3 (some .int) :: TB) { frames := 4, cells := 0, slots := 0, locals := 90 } dC dI base cy [.ref (base + 816), .int p1, .int p2] v Q := by
  refine Met.ofW (cc := cX10_urge) (maxL := 3) (ret := (some .int)) (by decide) rfl ?_
  intro p e s m args below meth c s₁ B hml hv
  obtain ⟨rfl, hP, hK⟩ := hv
  have hx := B.exec
  have hb := B.bytes
  have hr := B.returns
  have hts0 := atoms_spec (ws := (.code yX10_urge cX10_urge 3 (some .int) :: TB)) B.pre
  have hts : ∀ w ∈ TB, w.before ([.ref (base + 816), .int p1, .int p2]).toArray s = true := fun w h => hts0 w (List.mem_cons_of_mem _ h)
  have hown : s.vm.findClass RX10 = some m.cls := findClass_of_methodNamed B.named
  have hlocks := B.notSynchronized
  have hS : va_S (fun q => base ≤ q) s.heap s.heap [] := va_S.rf
  have hl := lv_entry ([.ref (base + 816), .int p1, .int p2]) (n := 3) (Nat.le_of_ble_eq_true rfl)
  rw [lg_entry_eq]
  generalize (lg_sl ([.ref (base + 816), .int p1, .int p2]) ++ List.replicate (3 - (lg_sl ([.ref (base + 816), .int p1, .int p2])).length) Slot.unset).toArray = ls at hl ⊢
  have hl : lv_has ls 3 [(0, .ref (base + 816)), (1, .int p1), (2, .int p2)] := hl
  have hret : ∀ (pc : Nat) (x : Int32) (v : VV) (H : Heap) (locs : List Loc) (ls : Array Slot), decode cX10_urge pc = .ok (.ireturn, 1) → Q x v → va_P (dC, dI) vwCl (Wd base cy rf v 874) H → va_S (fun q => base ≤ q) s.heap H locs → W p l e { frames := 4, cells := 0, slots := 0, locals := 90 } s m ([.ref (base + 816), .int p1, .int p2]).toArray below meth c H locs 0 0 (MQ below (va_Qi Q (Hp dC dI base cy) (fun q => base ≤ q)) ([.ref (base + 816), .int p1, .int p2]).toArray s 0 0 (fun q => base ≤ q)) (F0 m pc ls [.int x]) := fun pc x v H locs ls hd hq hP hS => W.iret (v := x) hx hb hr (fun t ht hW => ⟨⟨x, v, rfl, hq, by rw [ht]; exact hP, va_K.moved hW.alike hK⟩, hS.F ht⟩) hS.2.2 hd
  refine lv_iload_n hx hb dX10_urge_0 rfl (lv_at hl 1 rfl) ?_
  refine kS_I (As := [.int p1]) (rest := []) ⟨hx, hb, hml, hown, hts⟩ (t_X10_isEnd l dC dI base cy p1 v _ hw) (cwS 1 hts (gS ml_X10_231 mt_X10_isEnd mn_X10 mo_X10_isEnd) rfl rfl rfl (by decide +kernel) ⟨by decide, by decide⟩) hK hP hS rfl hl.1 rfl (Nat.le_of_ble_eq_true rfl) dX10_urge_1 ⟨Nat.zero_le _, Nat.zero_le _⟩ (fun x1 v1 H locs hw hP hS => ?_)
  refine lv_if_eq (tgt := 18) hx hb dX10_urge_4 (by decide) (fun c4 => ?_) (fun c4 => ?_)
  · have hw := hw.1 c4
    exact tb_X10_urge_18 hx hb hml hown hts hK p1 p2 _ hret  p1 p2 v1 _ _ _ hw (lv_sub hl [0, 1, 2] rfl) hP hS
  · have hw := hw.2 c4
    refine lv_iload_n hx hb dX10_urge_7 rfl (lv_at hl 2 rfl) ?_
    refine lv_if_lt (tgt := 18) hx hb dX10_urge_8 (by decide) (fun c8 => ?_) (fun c8 => ?_)
    · have hw := hw.1 c8
      exact tb_X10_urge_18 hx hb hml hown hts hK p1 p2 _ hret  p1 p2 v1 _ _ _ hw (lv_sub hl [0, 1, 2] rfl) hP hS
    · have hw := hw.2 c8
      refine lv_iload_n hx hb dX10_urge_11 rfl (lv_at hl 2 rfl) ?_
      refine lv_sipush (v := 255) hx hb dX10_urge_12 (by decide) ?_
      refine lv_icmp_le (tgt := 20) hx hb dX10_urge_15 (by decide) (fun c15 => ?_) (fun c15 => ?_)
      · have hw := hw.1 c15
        refine lv_aload_n hx hb dX10_urge_20 rfl (lv_at hl 0 rfl) ?_
        refine w_gR (C := RX10) (T := TX10) (N := 64) (ci := 10) hx hb hts in10 hown hK hP 1 th10.1 th10 rfl (by decide) (ch10_1 th10).1 (hts _ mf_X10_7) dX10_urge_21 ?_
        refine lv_iload_n hx hb dX10_urge_24 rfl (lv_at hl 1 rfl) ?_
        obtain ⟨hi2, hw⟩ := hw
        refine w_ia (N := 2) hx hb hK hP (ch10_1 th10).2.1.1 (ch10_1 th10).2.1 (ch10_1 th10).2.2 hi2 dX10_urge_25 ?_
        refine lv_topi (fun x25 ex25 => ?_)
        have hw := hw x25 ex25
        refine lv_iconst (v := 2) hx hb dX10_urge_26 (by decide) ?_
        refine lv_icmp_eq (tgt := 33) hx hb dX10_urge_27 (by decide) (fun c27 => ?_) (fun c27 => ?_)
        · have hw := hw.1 c27
          refine lv_aload_n hx hb dX10_urge_33 rfl (lv_at hl 0 rfl) ?_
          refine w_gR (C := RX10) (T := TX10) (N := 64) (ci := 10) hx hb hts in10 hown hK hP 25 th10.1 th10 rfl (by decide) (ch10_25 th10).1 (hts _ mf_X10_83) dX10_urge_34 ?_
          refine lv_iload_n hx hb dX10_urge_37 rfl (lv_at hl 1 rfl) ?_
          obtain ⟨hi3, hw⟩ := hw
          refine w_ia (N := 2) hx hb hK hP (ch10_25 th10).2.1.1 (ch10_25 th10).2.1 (ch10_25 th10).2.2 hi3 dX10_urge_38 ?_
          refine lv_topi (fun x38 ex38 => ?_)
          have hw := hw x38 ex38
          refine lv_bipush (v := 8) hx hb dX10_urge_39 (by decide) ?_
          refine lv_icmp_ne (tgt := 47) hx hb dX10_urge_41 (by decide) (fun c41 => ?_) (fun c41 => ?_)
          · have hw := hw.1 c41
            refine lv_aload_n hx hb dX10_urge_47 rfl (lv_at hl 0 rfl) ?_
            refine w_gR (C := RX10) (T := TX10) (N := 64) (ci := 10) hx hb hts in10 hown hK hP 26 th10.1 th10 rfl (by decide) (ch10_26 th10).1 (hts _ mf_X10_86) dX10_urge_48 ?_
            refine lv_bipush (v := 8) hx hb dX10_urge_51 (by decide) ?_
            refine lv_iload_n hx hb dX10_urge_53 rfl (lv_at hl 1 rfl) ?_
            refine lv_imul hx hb dX10_urge_54 ?_
            refine lv_topi (fun x54 ex54 => ?_)
            have hw := hw x54 ex54
            refine lv_aload_n hx hb dX10_urge_55 rfl (lv_at hl 0 rfl) ?_
            refine w_gR (C := RX10) (T := TX10) (N := 64) (ci := 10) hx hb hts in10 hown hK hP 25 th10.1 th10 rfl (by decide) (ch10_25 th10).1 (hts _ mf_X10_83) dX10_urge_56 ?_
            refine lv_iload_n hx hb dX10_urge_59 rfl (lv_at hl 1 rfl) ?_
            obtain ⟨hi4, hw⟩ := hw
            refine w_ia (N := 2) hx hb hK hP (ch10_25 th10).2.1.1 (ch10_25 th10).2.1 (ch10_25 th10).2.2 hi4 dX10_urge_60 ?_
            refine lv_topi (fun x60 ex60 => ?_)
            have hw := hw x60 ex60
            refine lv_iadd hx hb dX10_urge_61 ?_
            refine lv_topi (fun x61 ex61 => ?_)
            have hw := hw x61 ex61
            refine lv_iload_n hx hb dX10_urge_62 rfl (lv_at hl 2 rfl) ?_
            obtain ⟨hi6, hw⟩ := hw
            refine w_is (N := 16) hx hb hK hP hS (ch10_26 th10).2.1.1 (ch10_26 th10).2.1 (ch10_26 th10).2.2 hi6 dX10_urge_63 (fun v5 H locs hv5 hP hz hS => ?_)
            have hw := hw v5 hv5
            refine lv_aload_n hx hb dX10_urge_64 rfl (lv_at hl 0 rfl) ?_
            refine w_gR (C := RX10) (T := TX10) (N := 64) (ci := 10) hx hb hts in10 hown hK hP 25 th10.1 th10 rfl (by decide) (ch10_25 th10).1 (hts _ mf_X10_83) dX10_urge_65 ?_
            refine lv_iload_n hx hb dX10_urge_68 rfl (lv_at hl 1 rfl) ?_
            refine lv_dup2_11 hx hb dX10_urge_69 rfl rfl ?_
            obtain ⟨hi7, hw⟩ := hw
            refine w_ia (N := 2) hx hb hK hP (ch10_25 th10).2.1.1 (ch10_25 th10).2.1 (ch10_25 th10).2.2 hi7 dX10_urge_70 ?_
            refine lv_topi (fun x70 ex70 => ?_)
            have hw := hw x70 ex70
            refine lv_iconst (v := 1) hx hb dX10_urge_71 (by decide) ?_
            refine lv_iadd hx hb dX10_urge_72 ?_
            refine lv_topi (fun x72 ex72 => ?_)
            have hw := hw x72 ex72
            obtain ⟨hi9, hw⟩ := hw
            refine w_is (N := 2) hx hb hK hP hS (ch10_25 th10).2.1.1 (ch10_25 th10).2.1 (ch10_25 th10).2.2 hi9 dX10_urge_73 (fun v8 H locs hv8 hP hz hS => ?_)
            have hw := hw v8 hv8
            refine lv_aload_n hx hb dX10_urge_74 rfl (lv_at hl 0 rfl) ?_
            refine lv_iload_n hx hb dX10_urge_75 rfl (lv_at hl 1 rfl) ?_
            refine k_V (As := [.int p1]) (rest := []) ⟨hx, hb, hml, hown, hts⟩ (t_X10_goOn l dC dI base cy p1 v8 _ hw) (cwV 1 hts (gV ml_X10_256 mi_X10_goOn mx_X10_goOn mn_X10 mo_X10_goOn) rfl rfl rfl (by decide +kernel) ⟨by decide, by decide⟩) hK hP hS th10 (by decide) rfl rfl hl.1 rfl (Nat.le_of_ble_eq_true rfl) dX10_urge_76 ⟨Nat.zero_le _, Nat.zero_le _⟩ (fun v10 H locs hw hP hS => ?_)
            refine lv_aload_n hx hb dX10_urge_79 rfl (lv_at hl 0 rfl) ?_
            refine w_gR (C := RX10) (T := TX10) (N := 64) (ci := 10) hx hb hts in10 hown hK hP 25 th10.1 th10 rfl (by decide) (ch10_25 th10).1 (hts _ mf_X10_83) dX10_urge_80 ?_
            refine lv_iload_n hx hb dX10_urge_83 rfl (lv_at hl 1 rfl) ?_
            obtain ⟨hi11, hw⟩ := hw
            refine w_ia (N := 2) hx hb hK hP (ch10_25 th10).2.1.1 (ch10_25 th10).2.1 (ch10_25 th10).2.2 hi11 dX10_urge_84 ?_
            refine lv_topi (fun x84 ex84 => ?_)
            have hw := hw x84 ex84
            exact hret _ _ _ _ _ _ dX10_urge_85 hw hP hS
          · have hw := hw.2 c41
            refine lv_bipush (v := -3) hx hb dX10_urge_44 (by decide) ?_
            exact hret _ _ _ _ _ _ dX10_urge_46 hw hP hS
        · have hw := hw.2 c27
          refine lv_bipush (v := -2) hx hb dX10_urge_30 (by decide) ?_
          exact hret _ _ _ _ _ _ dX10_urge_32 hw hP hS
      · have hw := hw.2 c15
        exact tb_X10_urge_18 hx hb hml hown hts hK p1 p2 _ hret  p1 p2 v1 _ _ _ hw (lv_sub hl [0, 1, 2] rfl) hP hS
def w_X10_two (p1 : Int32) (v : VV) (Q : Int32 → VV → Prop) : Prop :=
  vp_in p1 20 ∧ ∀ x8 : Int32, x8 = v 872 (Int32.toNatClampNeg p1) → ∀ x9 : Int32, x9 = 256 * x8 → ∀ x16 : Int32, x16 = p1 + 1 → vp_in x16 20 ∧ ∀ x17 : Int32, x17 = v 872 (Int32.toNatClampNeg x16) → ∀ x18 : Int32, x18 = x9 + x17 → Q x18 v
set_option maxHeartbeats 4000000 in
set_option maxRecDepth 100000 in
/-- TransportFourModel.two -/
theorem t_X10_two (l : Launch) (dC : Nat → ClassId) (dI : Nat → Nat → Nat) (base : Nat) (cy : Nat → ClassId) (p1 : Int32) (v : VV) (Q : Int32 → VV → Prop) (hw : w_X10_two p1 v Q) : CI l yX10_two (.code yX10_two cX10_two 2 (some .int) :: TB) { frames := 0, cells := 0, slots := 0, locals := 0 } dC dI base cy [.ref (base + 816), .int p1] v Q := by
  refine Met.ofW (cc := cX10_two) (maxL := 2) (ret := (some .int)) (by decide) rfl ?_
  intro p e s m args below meth c s₁ B hml hv
  obtain ⟨rfl, hP, hK⟩ := hv
  have hx := B.exec
  have hb := B.bytes
  have hr := B.returns
  have hts0 := atoms_spec (ws := (.code yX10_two cX10_two 2 (some .int) :: TB)) B.pre
  have hts : ∀ w ∈ TB, w.before ([.ref (base + 816), .int p1]).toArray s = true := fun w h => hts0 w (List.mem_cons_of_mem _ h)
  have hown : s.vm.findClass RX10 = some m.cls := findClass_of_methodNamed B.named
  have hlocks := B.notSynchronized
  have hS : va_S (fun q => base ≤ q) s.heap s.heap [] := va_S.rf
  have hl := lv_entry ([.ref (base + 816), .int p1]) (n := 2) (Nat.le_of_ble_eq_true rfl)
  rw [lg_entry_eq]
  generalize (lg_sl ([.ref (base + 816), .int p1]) ++ List.replicate (2 - (lg_sl ([.ref (base + 816), .int p1])).length) Slot.unset).toArray = ls at hl ⊢
  have hl : lv_has ls 2 [(0, .ref (base + 816)), (1, .int p1)] := hl
  have hret : ∀ (pc : Nat) (x : Int32) (v : VV) (H : Heap) (locs : List Loc) (ls : Array Slot), decode cX10_two pc = .ok (.ireturn, 1) → Q x v → va_P (dC, dI) vwCl (Wd base cy rf v 874) H → va_S (fun q => base ≤ q) s.heap H locs → W p l e { frames := 0, cells := 0, slots := 0, locals := 0 } s m ([.ref (base + 816), .int p1]).toArray below meth c H locs 0 0 (MQ below (va_Qi Q (Hp dC dI base cy) (fun q => base ≤ q)) ([.ref (base + 816), .int p1]).toArray s 0 0 (fun q => base ≤ q)) (F0 m pc ls [.int x]) := fun pc x v H locs ls hd hq hP hS => W.iret (v := x) hx hb hr (fun t ht hW => ⟨⟨x, v, rfl, hq, by rw [ht]; exact hP, va_K.moved hW.alike hK⟩, hS.F ht⟩) hS.2.2 hd
  refine lv_sipush (v := 256) hx hb dX10_two_0 (by decide) ?_
  refine lv_aload_n hx hb dX10_two_3 rfl (lv_at hl 0 rfl) ?_
  refine w_gR (C := RX10) (T := TX10) (N := 64) (ci := 10) hx hb hts in10 hown hK hP 60 th10.1 th10 rfl (by decide) (ch10_60 th10).1 (hts _ mf_X10_177) dX10_two_4 ?_
  refine lv_iload_n hx hb dX10_two_7 rfl (lv_at hl 1 rfl) ?_
  obtain ⟨hi1, hw⟩ := hw
  refine w_ia (N := 20) hx hb hK hP (ch10_60 th10).2.1.1 (ch10_60 th10).2.1 (ch10_60 th10).2.2 hi1 dX10_two_8 ?_
  refine lv_topi (fun x8 ex8 => ?_)
  have hw := hw x8 ex8
  refine lv_imul hx hb dX10_two_9 ?_
  refine lv_topi (fun x9 ex9 => ?_)
  have hw := hw x9 ex9
  refine lv_aload_n hx hb dX10_two_10 rfl (lv_at hl 0 rfl) ?_
  refine w_gR (C := RX10) (T := TX10) (N := 64) (ci := 10) hx hb hts in10 hown hK hP 60 th10.1 th10 rfl (by decide) (ch10_60 th10).1 (hts _ mf_X10_177) dX10_two_11 ?_
  refine lv_iload_n hx hb dX10_two_14 rfl (lv_at hl 1 rfl) ?_
  refine lv_iconst (v := 1) hx hb dX10_two_15 (by decide) ?_
  refine lv_iadd hx hb dX10_two_16 ?_
  refine lv_topi (fun x16 ex16 => ?_)
  have hw := hw x16 ex16
  obtain ⟨hi2, hw⟩ := hw
  refine w_ia (N := 20) hx hb hK hP (ch10_60 th10).2.1.1 (ch10_60 th10).2.1 (ch10_60 th10).2.2 hi2 dX10_two_17 ?_
  refine lv_topi (fun x17 ex17 => ?_)
  have hw := hw x17 ex17
  refine lv_iadd hx hb dX10_two_18 ?_
  refine lv_topi (fun x18 ex18 => ?_)
  have hw := hw x18 ex18
  exact hret _ _ _ _ _ _ dX10_two_19 hw hP hS
def b_X10_codeOf_88 (p1 : Int32) (Q : Int32 → VV → Prop) (a0 : Int32) (a1 : Int32) (a2 : Int32) (a3 : Int32) (v : VV) : Prop :=
  Q 0 v
set_option maxHeartbeats 4000000 in
set_option maxRecDepth 100000 in
theorem tb_X10_codeOf_88 {p : Program} {l : Launch} {e : Env} {s : State} {m : MethodId} {args : Array Value} {below : List Frame} {meth : Method} {c : Code} {QQ : State → Prop} {dC : Nat → ClassId} {dI : Nat → Nat → Nat} {base : Nat} {cy : Nat → ClassId} (hx : p.tables.exec = Jvm.exec) (hb : c.code = cX10_codeOf) (hml : c.maxLocals = 4) (hown : s.vm.findClass RX10 = some m.cls) (hts : ∀ w ∈ TB, w.before args s = true) (hK : va_K (dC, dI) vwCl (tyL cy) s) (p1 : Int32) (Q : Int32 → VV → Prop) (hret : ∀ (pc : Nat) (x : Int32) (v : VV) (H : Heap) (locs : List Loc) (ls : Array Slot), decode cX10_codeOf pc = .ok (.ireturn, 1) → Q x v → va_P (dC, dI) vwCl (Wd base cy rf v 874) H → va_S (fun q => base ≤ q) s.heap H locs → W p l e { frames := 0, cells := 0, slots := 0, locals := 0 } s m args below meth c H locs 0 0 QQ (F0 m pc ls [.int x])) (a0 : Int32) (a1 : Int32) (a2 : Int32) (a3 : Int32) (v : VV) (H : Heap) (locs : List Loc) (ls : Array Slot) (hw : b_X10_codeOf_88 p1 Q  a0 a1 a2 a3 v) : lv_has ls 4 [(0, .int a0), (1, .int a1), (2, .int a2), (3, .int a3)] → va_P (dC, dI) vwCl (Wd base cy rf v 874) H → va_S (fun q => base ≤ q) s.heap H locs → W p l e { frames := 0, cells := 0, slots := 0, locals := 0 } s m args below meth c H locs 0 0 QQ (F0 m 88 ls []) := by
  intro hl hP hS
  refine lv_iconst (v := 0) hx hb dX10_codeOf_88 (by decide) ?_
  exact hret _ _ _ _ _ _ dX10_codeOf_89 hw hP hS
def b_X10_codeOf_84 (p1 : Int32) (Q : Int32 → VV → Prop) (a0 : Int32) (a1 : Int32) (a2 : Int32) (a3 : Int32) (v : VV) : Prop :=
  Q a1 v
set_option maxHeartbeats 4000000 in
set_option maxRecDepth 100000 in
theorem tb_X10_codeOf_84 {p : Program} {l : Launch} {e : Env} {s : State} {m : MethodId} {args : Array Value} {below : List Frame} {meth : Method} {c : Code} {QQ : State → Prop} {dC : Nat → ClassId} {dI : Nat → Nat → Nat} {base : Nat} {cy : Nat → ClassId} (hx : p.tables.exec = Jvm.exec) (hb : c.code = cX10_codeOf) (hml : c.maxLocals = 4) (hown : s.vm.findClass RX10 = some m.cls) (hts : ∀ w ∈ TB, w.before args s = true) (hK : va_K (dC, dI) vwCl (tyL cy) s) (p1 : Int32) (Q : Int32 → VV → Prop) (hret : ∀ (pc : Nat) (x : Int32) (v : VV) (H : Heap) (locs : List Loc) (ls : Array Slot), decode cX10_codeOf pc = .ok (.ireturn, 1) → Q x v → va_P (dC, dI) vwCl (Wd base cy rf v 874) H → va_S (fun q => base ≤ q) s.heap H locs → W p l e { frames := 0, cells := 0, slots := 0, locals := 0 } s m args below meth c H locs 0 0 QQ (F0 m pc ls [.int x])) (a0 : Int32) (a1 : Int32) (a2 : Int32) (a3 : Int32) (v : VV) (H : Heap) (locs : List Loc) (ls : Array Slot) (hw : b_X10_codeOf_84 p1 Q  a0 a1 a2 a3 v) : lv_has ls 4 [(0, .int a0), (1, .int a1), (2, .int a2), (3, .int a3)] → va_P (dC, dI) vwCl (Wd base cy rf v 874) H → va_S (fun q => base ≤ q) s.heap H locs → W p l e { frames := 0, cells := 0, slots := 0, locals := 0 } s m args below meth c H locs 0 0 QQ (F0 m 84 ls []) := by
  intro hl hP hS
  refine lv_iload_n hx hb dX10_codeOf_84 rfl (lv_at hl 1 rfl) ?_
  refine lv_goto (tgt := 89) hx hb dX10_codeOf_85 (by decide) ?_
  exact hret _ _ _ _ _ _ dX10_codeOf_89 hw hP hS
def b_X10_codeOf_70 (p1 : Int32) (Q : Int32 → VV → Prop) (a0 : Int32) (a1 : Int32) (a2 : Int32) (s0 : Int32) (v : VV) : Prop :=
  (¬ a2 = 0 → b_X10_codeOf_84 p1 Q  a0 a1 a2 s0 v) ∧ (a2 = 0 → (s0 = 0 → b_X10_codeOf_88 p1 Q  a0 a1 a2 s0 v) ∧ (¬ s0 = 0 → (¬ a1 = a0 → b_X10_codeOf_88 p1 Q  a0 a1 a2 s0 v) ∧ (a1 = a0 → b_X10_codeOf_84 p1 Q  a0 a1 a2 s0 v)))
set_option maxHeartbeats 4000000 in
set_option maxRecDepth 100000 in
theorem tb_X10_codeOf_70 {p : Program} {l : Launch} {e : Env} {s : State} {m : MethodId} {args : Array Value} {below : List Frame} {meth : Method} {c : Code} {QQ : State → Prop} {dC : Nat → ClassId} {dI : Nat → Nat → Nat} {base : Nat} {cy : Nat → ClassId} (hx : p.tables.exec = Jvm.exec) (hb : c.code = cX10_codeOf) (hml : c.maxLocals = 4) (hown : s.vm.findClass RX10 = some m.cls) (hts : ∀ w ∈ TB, w.before args s = true) (hK : va_K (dC, dI) vwCl (tyL cy) s) (p1 : Int32) (Q : Int32 → VV → Prop) (hret : ∀ (pc : Nat) (x : Int32) (v : VV) (H : Heap) (locs : List Loc) (ls : Array Slot), decode cX10_codeOf pc = .ok (.ireturn, 1) → Q x v → va_P (dC, dI) vwCl (Wd base cy rf v 874) H → va_S (fun q => base ≤ q) s.heap H locs → W p l e { frames := 0, cells := 0, slots := 0, locals := 0 } s m args below meth c H locs 0 0 QQ (F0 m pc ls [.int x])) (a0 : Int32) (a1 : Int32) (a2 : Int32) (s0 : Int32) (v : VV) (H : Heap) (locs : List Loc) (ls : Array Slot) (hw : b_X10_codeOf_70 p1 Q  a0 a1 a2 s0 v) : lv_has ls 4 [(0, .int a0), (1, .int a1), (2, .int a2)] → va_P (dC, dI) vwCl (Wd base cy rf v 874) H → va_S (fun q => base ≤ q) s.heap H locs → W p l e { frames := 0, cells := 0, slots := 0, locals := 0 } s m args below meth c H locs 0 0 QQ (F0 m 70 ls [.int s0]) := by
  intro hl hP hS
  refine lv_istore_n (lv' := [(3, .int s0), (0, .int a0), (1, .int a1), (2, .int a2)]) hx hb dX10_codeOf_70 rfl hl (by decide) rfl (fun ls hl => ?_)
  refine lv_iload_n hx hb dX10_codeOf_71 rfl (lv_at hl 3 rfl) ?_
  refine lv_if_ne (tgt := 84) hx hb dX10_codeOf_72 (by decide) (fun c72 => ?_) (fun c72 => ?_)
  · have hw := hw.1 c72
    exact tb_X10_codeOf_84 hx hb hml hown hts hK p1 _ hret  a0 a1 a2 s0 v _ _ _ hw (lv_sub hl [1, 2, 3, 0] rfl) hP hS
  · have hw := hw.2 c72
    refine lv_iload_n hx hb dX10_codeOf_75 rfl (lv_at hl 0 rfl) ?_
    refine lv_if_eq (tgt := 88) hx hb dX10_codeOf_76 (by decide) (fun c76 => ?_) (fun c76 => ?_)
    · have hw := hw.1 c76
      exact tb_X10_codeOf_88 hx hb hml hown hts hK p1 _ hret  a0 a1 a2 s0 v _ _ _ hw (lv_sub hl [1, 2, 3, 0] rfl) hP hS
    · have hw := hw.2 c76
      refine lv_iload_n hx hb dX10_codeOf_79 rfl (lv_at hl 2 rfl) ?_
      refine lv_iload_n hx hb dX10_codeOf_80 rfl (lv_at hl 1 rfl) ?_
      refine lv_icmp_ne (tgt := 88) hx hb dX10_codeOf_81 (by decide) (fun c81 => ?_) (fun c81 => ?_)
      · have hw := hw.1 c81
        exact tb_X10_codeOf_88 hx hb hml hown hts hK p1 _ hret  a0 a1 a2 s0 v _ _ _ hw (lv_sub hl [1, 2, 3, 0] rfl) hP hS
      · have hw := hw.2 c81
        exact tb_X10_codeOf_84 hx hb hml hown hts hK p1 _ hret  a0 a1 a2 s0 v _ _ _ hw (lv_sub hl [1, 2, 3, 0] rfl) hP hS
def b_X10_codeOf_65 (p1 : Int32) (Q : Int32 → VV → Prop) (a0 : Int32) (a1 : Int32) (a2 : Int32) (v : VV) : Prop :=
  b_X10_codeOf_70 p1 Q  a0 a1 a2 1 v
set_option maxHeartbeats 4000000 in
set_option maxRecDepth 100000 in
theorem tb_X10_codeOf_65 {p : Program} {l : Launch} {e : Env} {s : State} {m : MethodId} {args : Array Value} {below : List Frame} {meth : Method} {c : Code} {QQ : State → Prop} {dC : Nat → ClassId} {dI : Nat → Nat → Nat} {base : Nat} {cy : Nat → ClassId} (hx : p.tables.exec = Jvm.exec) (hb : c.code = cX10_codeOf) (hml : c.maxLocals = 4) (hown : s.vm.findClass RX10 = some m.cls) (hts : ∀ w ∈ TB, w.before args s = true) (hK : va_K (dC, dI) vwCl (tyL cy) s) (p1 : Int32) (Q : Int32 → VV → Prop) (hret : ∀ (pc : Nat) (x : Int32) (v : VV) (H : Heap) (locs : List Loc) (ls : Array Slot), decode cX10_codeOf pc = .ok (.ireturn, 1) → Q x v → va_P (dC, dI) vwCl (Wd base cy rf v 874) H → va_S (fun q => base ≤ q) s.heap H locs → W p l e { frames := 0, cells := 0, slots := 0, locals := 0 } s m args below meth c H locs 0 0 QQ (F0 m pc ls [.int x])) (a0 : Int32) (a1 : Int32) (a2 : Int32) (v : VV) (H : Heap) (locs : List Loc) (ls : Array Slot) (hw : b_X10_codeOf_65 p1 Q  a0 a1 a2 v) : lv_has ls 4 [(0, .int a0), (1, .int a1), (2, .int a2)] → va_P (dC, dI) vwCl (Wd base cy rf v 874) H → va_S (fun q => base ≤ q) s.heap H locs → W p l e { frames := 0, cells := 0, slots := 0, locals := 0 } s m args below meth c H locs 0 0 QQ (F0 m 65 ls []) := by
  intro hl hP hS
  refine lv_iconst (v := 1) hx hb dX10_codeOf_65 (by decide) ?_
  refine lv_goto (tgt := 70) hx hb dX10_codeOf_66 (by decide) ?_
  exact tb_X10_codeOf_70 hx hb hml hown hts hK p1 _ hret  a0 a1 a2 1 v _ _ _ hw (lv_sub hl [0, 1, 2] rfl) hP hS
def b_X10_codeOf_31 (p1 : Int32) (Q : Int32 → VV → Prop) (a0 : Int32) (a1 : Int32) (s0 : Int32) (v : VV) : Prop :=
  (a1 = 240 → b_X10_codeOf_65 p1 Q  a0 a1 s0 v) ∧ (¬ a1 = 240 → (a1 = 16 → b_X10_codeOf_65 p1 Q  a0 a1 s0 v) ∧ (¬ a1 = 16 → (a1 = 32 → b_X10_codeOf_65 p1 Q  a0 a1 s0 v) ∧ (¬ a1 = 32 → (a1 = 128 → b_X10_codeOf_65 p1 Q  a0 a1 s0 v) ∧ (¬ a1 = 128 → (¬ a1 = 192 → b_X10_codeOf_70 p1 Q  a0 a1 s0 0 v) ∧ (a1 = 192 → b_X10_codeOf_65 p1 Q  a0 a1 s0 v)))))
set_option maxHeartbeats 4000000 in
set_option maxRecDepth 100000 in
theorem tb_X10_codeOf_31 {p : Program} {l : Launch} {e : Env} {s : State} {m : MethodId} {args : Array Value} {below : List Frame} {meth : Method} {c : Code} {QQ : State → Prop} {dC : Nat → ClassId} {dI : Nat → Nat → Nat} {base : Nat} {cy : Nat → ClassId} (hx : p.tables.exec = Jvm.exec) (hb : c.code = cX10_codeOf) (hml : c.maxLocals = 4) (hown : s.vm.findClass RX10 = some m.cls) (hts : ∀ w ∈ TB, w.before args s = true) (hK : va_K (dC, dI) vwCl (tyL cy) s) (p1 : Int32) (Q : Int32 → VV → Prop) (hret : ∀ (pc : Nat) (x : Int32) (v : VV) (H : Heap) (locs : List Loc) (ls : Array Slot), decode cX10_codeOf pc = .ok (.ireturn, 1) → Q x v → va_P (dC, dI) vwCl (Wd base cy rf v 874) H → va_S (fun q => base ≤ q) s.heap H locs → W p l e { frames := 0, cells := 0, slots := 0, locals := 0 } s m args below meth c H locs 0 0 QQ (F0 m pc ls [.int x])) (a0 : Int32) (a1 : Int32) (s0 : Int32) (v : VV) (H : Heap) (locs : List Loc) (ls : Array Slot) (hw : b_X10_codeOf_31 p1 Q  a0 a1 s0 v) : lv_has ls 4 [(0, .int a0), (1, .int a1)] → va_P (dC, dI) vwCl (Wd base cy rf v 874) H → va_S (fun q => base ≤ q) s.heap H locs → W p l e { frames := 0, cells := 0, slots := 0, locals := 0 } s m args below meth c H locs 0 0 QQ (F0 m 31 ls [.int s0]) := by
  intro hl hP hS
  refine lv_istore_n (lv' := [(2, .int s0), (0, .int a0), (1, .int a1)]) hx hb dX10_codeOf_31 rfl hl (by decide) rfl (fun ls hl => ?_)
  refine lv_iload_n hx hb dX10_codeOf_32 rfl (lv_at hl 2 rfl) ?_
  refine lv_sipush (v := 240) hx hb dX10_codeOf_33 (by decide) ?_
  refine lv_icmp_eq (tgt := 65) hx hb dX10_codeOf_36 (by decide) (fun c36 => ?_) (fun c36 => ?_)
  · have hw := hw.1 c36
    exact tb_X10_codeOf_65 hx hb hml hown hts hK p1 _ hret  a0 a1 s0 v _ _ _ hw (lv_sub hl [1, 2, 0] rfl) hP hS
  · have hw := hw.2 c36
    refine lv_iload_n hx hb dX10_codeOf_39 rfl (lv_at hl 2 rfl) ?_
    refine lv_bipush (v := 16) hx hb dX10_codeOf_40 (by decide) ?_
    refine lv_icmp_eq (tgt := 65) hx hb dX10_codeOf_42 (by decide) (fun c42 => ?_) (fun c42 => ?_)
    · have hw := hw.1 c42
      exact tb_X10_codeOf_65 hx hb hml hown hts hK p1 _ hret  a0 a1 s0 v _ _ _ hw (lv_sub hl [1, 2, 0] rfl) hP hS
    · have hw := hw.2 c42
      refine lv_iload_n hx hb dX10_codeOf_45 rfl (lv_at hl 2 rfl) ?_
      refine lv_bipush (v := 32) hx hb dX10_codeOf_46 (by decide) ?_
      refine lv_icmp_eq (tgt := 65) hx hb dX10_codeOf_48 (by decide) (fun c48 => ?_) (fun c48 => ?_)
      · have hw := hw.1 c48
        exact tb_X10_codeOf_65 hx hb hml hown hts hK p1 _ hret  a0 a1 s0 v _ _ _ hw (lv_sub hl [1, 2, 0] rfl) hP hS
      · have hw := hw.2 c48
        refine lv_iload_n hx hb dX10_codeOf_51 rfl (lv_at hl 2 rfl) ?_
        refine lv_sipush (v := 128) hx hb dX10_codeOf_52 (by decide) ?_
        refine lv_icmp_eq (tgt := 65) hx hb dX10_codeOf_55 (by decide) (fun c55 => ?_) (fun c55 => ?_)
        · have hw := hw.1 c55
          exact tb_X10_codeOf_65 hx hb hml hown hts hK p1 _ hret  a0 a1 s0 v _ _ _ hw (lv_sub hl [1, 2, 0] rfl) hP hS
        · have hw := hw.2 c55
          refine lv_iload_n hx hb dX10_codeOf_58 rfl (lv_at hl 2 rfl) ?_
          refine lv_sipush (v := 192) hx hb dX10_codeOf_59 (by decide) ?_
          refine lv_icmp_ne (tgt := 69) hx hb dX10_codeOf_62 (by decide) (fun c62 => ?_) (fun c62 => ?_)
          · have hw := hw.1 c62
            refine lv_iconst (v := 0) hx hb dX10_codeOf_69 (by decide) ?_
            exact tb_X10_codeOf_70 hx hb hml hown hts hK p1 _ hret  a0 a1 s0 0 v _ _ _ hw (lv_sub hl [1, 2, 0] rfl) hP hS
          · have hw := hw.2 c62
            exact tb_X10_codeOf_65 hx hb hml hown hts hK p1 _ hret  a0 a1 s0 v _ _ _ hw (lv_sub hl [1, 2, 0] rfl) hP hS
def b_X10_codeOf_26 (p1 : Int32) (Q : Int32 → VV → Prop) (a0 : Int32) (a1 : Int32) (v : VV) : Prop :=
  b_X10_codeOf_31 p1 Q  a0 a1 1 v
set_option maxHeartbeats 4000000 in
set_option maxRecDepth 100000 in
theorem tb_X10_codeOf_26 {p : Program} {l : Launch} {e : Env} {s : State} {m : MethodId} {args : Array Value} {below : List Frame} {meth : Method} {c : Code} {QQ : State → Prop} {dC : Nat → ClassId} {dI : Nat → Nat → Nat} {base : Nat} {cy : Nat → ClassId} (hx : p.tables.exec = Jvm.exec) (hb : c.code = cX10_codeOf) (hml : c.maxLocals = 4) (hown : s.vm.findClass RX10 = some m.cls) (hts : ∀ w ∈ TB, w.before args s = true) (hK : va_K (dC, dI) vwCl (tyL cy) s) (p1 : Int32) (Q : Int32 → VV → Prop) (hret : ∀ (pc : Nat) (x : Int32) (v : VV) (H : Heap) (locs : List Loc) (ls : Array Slot), decode cX10_codeOf pc = .ok (.ireturn, 1) → Q x v → va_P (dC, dI) vwCl (Wd base cy rf v 874) H → va_S (fun q => base ≤ q) s.heap H locs → W p l e { frames := 0, cells := 0, slots := 0, locals := 0 } s m args below meth c H locs 0 0 QQ (F0 m pc ls [.int x])) (a0 : Int32) (a1 : Int32) (v : VV) (H : Heap) (locs : List Loc) (ls : Array Slot) (hw : b_X10_codeOf_26 p1 Q  a0 a1 v) : lv_has ls 4 [(0, .int a0), (1, .int a1)] → va_P (dC, dI) vwCl (Wd base cy rf v 874) H → va_S (fun q => base ≤ q) s.heap H locs → W p l e { frames := 0, cells := 0, slots := 0, locals := 0 } s m args below meth c H locs 0 0 QQ (F0 m 26 ls []) := by
  intro hl hP hS
  refine lv_iconst (v := 1) hx hb dX10_codeOf_26 (by decide) ?_
  refine lv_goto (tgt := 31) hx hb dX10_codeOf_27 (by decide) ?_
  exact tb_X10_codeOf_31 hx hb hml hown hts hK p1 _ hret  a0 a1 1 v _ _ _ hw (lv_sub hl [0, 1] rfl) hP hS
def w_X10_codeOf (p1 : Int32) (v : VV) (Q : Int32 → VV → Prop) : Prop :=
  ∀ x4 : Int32, x4 = p1 &&& 240 → (x4 = 224 → b_X10_codeOf_26 p1 Q  p1 x4 v) ∧ (¬ x4 = 224 → (x4 = 208 → b_X10_codeOf_26 p1 Q  p1 x4 v) ∧ (¬ x4 = 208 → (¬ x4 = 96 → b_X10_codeOf_31 p1 Q  p1 x4 0 v) ∧ (x4 = 96 → b_X10_codeOf_26 p1 Q  p1 x4 v)))
set_option maxHeartbeats 4000000 in
set_option maxRecDepth 100000 in
/-- TransportFourModel.codeOf -/
theorem t_X10_codeOf (l : Launch) (dC : Nat → ClassId) (dI : Nat → Nat → Nat) (base : Nat) (cy : Nat → ClassId) (p1 : Int32) (v : VV) (Q : Int32 → VV → Prop) (hw : w_X10_codeOf p1 v Q) : CI l yX10_codeOf (.code yX10_codeOf cX10_codeOf 4 (some .int) :: TB) { frames := 0, cells := 0, slots := 0, locals := 0 } dC dI base cy [.int p1] v Q := by
  refine Met.ofW (cc := cX10_codeOf) (maxL := 4) (ret := (some .int)) (by decide) rfl ?_
  intro p e s m args below meth c s₁ B hml hv
  obtain ⟨rfl, hP, hK⟩ := hv
  have hx := B.exec
  have hb := B.bytes
  have hr := B.returns
  have hts0 := atoms_spec (ws := (.code yX10_codeOf cX10_codeOf 4 (some .int) :: TB)) B.pre
  have hts : ∀ w ∈ TB, w.before ([.int p1]).toArray s = true := fun w h => hts0 w (List.mem_cons_of_mem _ h)
  have hown : s.vm.findClass RX10 = some m.cls := findClass_of_methodNamed B.named
  have hlocks := B.notSynchronized
  have hS : va_S (fun q => base ≤ q) s.heap s.heap [] := va_S.rf
  have hl := lv_entry ([.int p1]) (n := 4) (Nat.le_of_ble_eq_true rfl)
  rw [lg_entry_eq]
  generalize (lg_sl ([.int p1]) ++ List.replicate (4 - (lg_sl ([.int p1])).length) Slot.unset).toArray = ls at hl ⊢
  have hl : lv_has ls 4 [(0, .int p1)] := hl
  have hret : ∀ (pc : Nat) (x : Int32) (v : VV) (H : Heap) (locs : List Loc) (ls : Array Slot), decode cX10_codeOf pc = .ok (.ireturn, 1) → Q x v → va_P (dC, dI) vwCl (Wd base cy rf v 874) H → va_S (fun q => base ≤ q) s.heap H locs → W p l e { frames := 0, cells := 0, slots := 0, locals := 0 } s m ([.int p1]).toArray below meth c H locs 0 0 (MQ below (va_Qi Q (Hp dC dI base cy) (fun q => base ≤ q)) ([.int p1]).toArray s 0 0 (fun q => base ≤ q)) (F0 m pc ls [.int x]) := fun pc x v H locs ls hd hq hP hS => W.iret (v := x) hx hb hr (fun t ht hW => ⟨⟨x, v, rfl, hq, by rw [ht]; exact hP, va_K.moved hW.alike hK⟩, hS.F ht⟩) hS.2.2 hd
  refine lv_iload_n hx hb dX10_codeOf_0 rfl (lv_at hl 0 rfl) ?_
  refine lv_sipush (v := 240) hx hb dX10_codeOf_1 (by decide) ?_
  refine lv_iand hx hb dX10_codeOf_4 ?_
  refine lv_topi (fun x4 ex4 => ?_)
  have hw := hw x4 ex4
  refine lv_istore_n (lv' := [(1, .int x4), (0, .int p1)]) hx hb dX10_codeOf_5 rfl hl (by decide) rfl (fun ls hl => ?_)
  refine lv_iload_n hx hb dX10_codeOf_6 rfl (lv_at hl 0 rfl) ?_
  refine lv_sipush (v := 224) hx hb dX10_codeOf_7 (by decide) ?_
  refine lv_icmp_eq (tgt := 26) hx hb dX10_codeOf_10 (by decide) (fun c10 => ?_) (fun c10 => ?_)
  · have hw := hw.1 c10
    exact tb_X10_codeOf_26 hx hb hml hown hts hK p1 _ hret  p1 x4 v _ _ _ hw (lv_sub hl [1, 0] rfl) hP hS
  · have hw := hw.2 c10
    refine lv_iload_n hx hb dX10_codeOf_13 rfl (lv_at hl 0 rfl) ?_
    refine lv_sipush (v := 208) hx hb dX10_codeOf_14 (by decide) ?_
    refine lv_icmp_eq (tgt := 26) hx hb dX10_codeOf_17 (by decide) (fun c17 => ?_) (fun c17 => ?_)
    · have hw := hw.1 c17
      exact tb_X10_codeOf_26 hx hb hml hown hts hK p1 _ hret  p1 x4 v _ _ _ hw (lv_sub hl [1, 0] rfl) hP hS
    · have hw := hw.2 c17
      refine lv_iload_n hx hb dX10_codeOf_20 rfl (lv_at hl 0 rfl) ?_
      refine lv_bipush (v := 96) hx hb dX10_codeOf_21 (by decide) ?_
      refine lv_icmp_ne (tgt := 30) hx hb dX10_codeOf_23 (by decide) (fun c23 => ?_) (fun c23 => ?_)
      · have hw := hw.1 c23
        refine lv_iconst (v := 0) hx hb dX10_codeOf_30 (by decide) ?_
        exact tb_X10_codeOf_31 hx hb hml hown hts hK p1 _ hret  p1 x4 0 v _ _ _ hw (lv_sub hl [1, 0] rfl) hP hS
      · have hw := hw.2 c23
        exact tb_X10_codeOf_26 hx hb hml hown hts hK p1 _ hret  p1 x4 v _ _ _ hw (lv_sub hl [1, 0] rfl) hP hS
def b_X10_headOf_21 (p1 : Int32) (Q : Int32 → VV → Prop) (a0 : Int32) (v : VV) : Prop :=
  Q 10 v
set_option maxHeartbeats 4000000 in
set_option maxRecDepth 100000 in
theorem tb_X10_headOf_21 {p : Program} {l : Launch} {e : Env} {s : State} {m : MethodId} {args : Array Value} {below : List Frame} {meth : Method} {c : Code} {QQ : State → Prop} {dC : Nat → ClassId} {dI : Nat → Nat → Nat} {base : Nat} {cy : Nat → ClassId} (hx : p.tables.exec = Jvm.exec) (hb : c.code = cX10_headOf) (hml : c.maxLocals = 1) (hown : s.vm.findClass RX10 = some m.cls) (hts : ∀ w ∈ TB, w.before args s = true) (hK : va_K (dC, dI) vwCl (tyL cy) s) (p1 : Int32) (Q : Int32 → VV → Prop) (hret : ∀ (pc : Nat) (x : Int32) (v : VV) (H : Heap) (locs : List Loc) (ls : Array Slot), decode cX10_headOf pc = .ok (.ireturn, 1) → Q x v → va_P (dC, dI) vwCl (Wd base cy rf v 874) H → va_S (fun q => base ≤ q) s.heap H locs → W p l e { frames := 0, cells := 0, slots := 0, locals := 0 } s m args below meth c H locs 0 0 QQ (F0 m pc ls [.int x])) (a0 : Int32) (v : VV) (H : Heap) (locs : List Loc) (ls : Array Slot) (hw : b_X10_headOf_21 p1 Q  a0 v) : lv_has ls 1 [(0, .int a0)] → va_P (dC, dI) vwCl (Wd base cy rf v 874) H → va_S (fun q => base ≤ q) s.heap H locs → W p l e { frames := 0, cells := 0, slots := 0, locals := 0 } s m args below meth c H locs 0 0 QQ (F0 m 21 ls []) := by
  intro hl hP hS
  refine lv_bipush (v := 10) hx hb dX10_headOf_21 (by decide) ?_
  refine lv_goto (tgt := 40) hx hb dX10_headOf_23 (by decide) ?_
  exact hret _ _ _ _ _ _ dX10_headOf_40 hw hP hS
def w_X10_headOf (p1 : Int32) (v : VV) (Q : Int32 → VV → Prop) : Prop :=
  (p1 = 224 → b_X10_headOf_21 p1 Q  p1 v) ∧ (¬ p1 = 224 → (p1 = 208 → b_X10_headOf_21 p1 Q  p1 v) ∧ (¬ p1 = 208 → (¬ p1 = 128 → (¬ p1 = 192 → Q 8 v) ∧ (p1 = 192 → Q 9 v)) ∧ (p1 = 128 → b_X10_headOf_21 p1 Q  p1 v)))
set_option maxHeartbeats 4000000 in
set_option maxRecDepth 100000 in
/-- TransportFourModel.headOf -/
theorem t_X10_headOf (l : Launch) (dC : Nat → ClassId) (dI : Nat → Nat → Nat) (base : Nat) (cy : Nat → ClassId) (p1 : Int32) (v : VV) (Q : Int32 → VV → Prop) (hw : w_X10_headOf p1 v Q) : CI l yX10_headOf (.code yX10_headOf cX10_headOf 1 (some .int) :: TB) { frames := 0, cells := 0, slots := 0, locals := 0 } dC dI base cy [.int p1] v Q := by
  refine Met.ofW (cc := cX10_headOf) (maxL := 1) (ret := (some .int)) (by decide) rfl ?_
  intro p e s m args below meth c s₁ B hml hv
  obtain ⟨rfl, hP, hK⟩ := hv
  have hx := B.exec
  have hb := B.bytes
  have hr := B.returns
  have hts0 := atoms_spec (ws := (.code yX10_headOf cX10_headOf 1 (some .int) :: TB)) B.pre
  have hts : ∀ w ∈ TB, w.before ([.int p1]).toArray s = true := fun w h => hts0 w (List.mem_cons_of_mem _ h)
  have hown : s.vm.findClass RX10 = some m.cls := findClass_of_methodNamed B.named
  have hlocks := B.notSynchronized
  have hS : va_S (fun q => base ≤ q) s.heap s.heap [] := va_S.rf
  have hl := lv_entry ([.int p1]) (n := 1) (Nat.le_of_ble_eq_true rfl)
  rw [lg_entry_eq]
  generalize (lg_sl ([.int p1]) ++ List.replicate (1 - (lg_sl ([.int p1])).length) Slot.unset).toArray = ls at hl ⊢
  have hl : lv_has ls 1 [(0, .int p1)] := hl
  have hret : ∀ (pc : Nat) (x : Int32) (v : VV) (H : Heap) (locs : List Loc) (ls : Array Slot), decode cX10_headOf pc = .ok (.ireturn, 1) → Q x v → va_P (dC, dI) vwCl (Wd base cy rf v 874) H → va_S (fun q => base ≤ q) s.heap H locs → W p l e { frames := 0, cells := 0, slots := 0, locals := 0 } s m ([.int p1]).toArray below meth c H locs 0 0 (MQ below (va_Qi Q (Hp dC dI base cy) (fun q => base ≤ q)) ([.int p1]).toArray s 0 0 (fun q => base ≤ q)) (F0 m pc ls [.int x]) := fun pc x v H locs ls hd hq hP hS => W.iret (v := x) hx hb hr (fun t ht hW => ⟨⟨x, v, rfl, hq, by rw [ht]; exact hP, va_K.moved hW.alike hK⟩, hS.F ht⟩) hS.2.2 hd
  refine lv_iload_n hx hb dX10_headOf_0 rfl (lv_at hl 0 rfl) ?_
  refine lv_sipush (v := 224) hx hb dX10_headOf_1 (by decide) ?_
  refine lv_icmp_eq (tgt := 21) hx hb dX10_headOf_4 (by decide) (fun c4 => ?_) (fun c4 => ?_)
  · have hw := hw.1 c4
    exact tb_X10_headOf_21 hx hb hml hown hts hK p1 _ hret  p1 v _ _ _ hw (lv_sub hl [0] rfl) hP hS
  · have hw := hw.2 c4
    refine lv_iload_n hx hb dX10_headOf_7 rfl (lv_at hl 0 rfl) ?_
    refine lv_sipush (v := 208) hx hb dX10_headOf_8 (by decide) ?_
    refine lv_icmp_eq (tgt := 21) hx hb dX10_headOf_11 (by decide) (fun c11 => ?_) (fun c11 => ?_)
    · have hw := hw.1 c11
      exact tb_X10_headOf_21 hx hb hml hown hts hK p1 _ hret  p1 v _ _ _ hw (lv_sub hl [0] rfl) hP hS
    · have hw := hw.2 c11
      refine lv_iload_n hx hb dX10_headOf_14 rfl (lv_at hl 0 rfl) ?_
      refine lv_sipush (v := 128) hx hb dX10_headOf_15 (by decide) ?_
      refine lv_icmp_ne (tgt := 26) hx hb dX10_headOf_18 (by decide) (fun c18 => ?_) (fun c18 => ?_)
      · have hw := hw.1 c18
        refine lv_iload_n hx hb dX10_headOf_26 rfl (lv_at hl 0 rfl) ?_
        refine lv_sipush (v := 192) hx hb dX10_headOf_27 (by decide) ?_
        refine lv_icmp_ne (tgt := 38) hx hb dX10_headOf_30 (by decide) (fun c30 => ?_) (fun c30 => ?_)
        · have hw := hw.1 c30
          refine lv_bipush (v := 8) hx hb dX10_headOf_38 (by decide) ?_
          exact hret _ _ _ _ _ _ dX10_headOf_40 hw hP hS
        · have hw := hw.2 c30
          refine lv_bipush (v := 9) hx hb dX10_headOf_33 (by decide) ?_
          refine lv_goto (tgt := 40) hx hb dX10_headOf_35 (by decide) ?_
          exact hret _ _ _ _ _ _ dX10_headOf_40 hw hP hS
      · have hw := hw.2 c18
        exact tb_X10_headOf_21 hx hb hml hown hts hK p1 _ hret  p1 v _ _ _ hw (lv_sub hl [0] rfl) hP hS
