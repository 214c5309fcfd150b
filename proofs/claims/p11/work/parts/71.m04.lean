def b_X10_isGood_198  (Q : Int32 → VV → Prop) (a1 : Int32) (a2 : Int32) (a3 : Int32) (a4 : Int32) (a5 : Int32) (a6 : Int32) (v : VV) : Prop :=
  Q 0 v
set_option maxHeartbeats 4000000 in
set_option maxRecDepth 100000 in
theorem tb_X10_isGood_198 {p : Program} {l : Launch} {e : Env} {s : State} {m : MethodId} {args : Array Value} {below : List Frame} {meth : Method} {c : Code} {QQ : State → Prop} {dC : Nat → ClassId} {dI : Nat → Nat → Nat} {base : Nat} {cy : Nat → ClassId} (hx : p.tables.exec = Jvm.exec) (hb : c.code = cX10_isGood) (hml : c.maxLocals = 7) (hown : s.vm.findClass RX10 = some m.cls) (hts : ∀ w ∈ TB, w.before args s = true) (hK : va_K (dC, dI) vwCl (tyL cy) s)  (Q : Int32 → VV → Prop) (hret : ∀ (pc : Nat) (x : Int32) (v : VV) (H : Heap) (locs : List Loc) (ls : Array Slot), decode cX10_isGood pc = .ok (.ireturn, 1) → (x = 0 ∨ x = 1) → Q x v → va_P (dC, dI) vwCl (Wd base cy rf v 874) H → va_S (fun q => base ≤ q) s.heap H locs → W p l e { frames := 1, cells := 0, slots := 0, locals := 23 } s m args below meth c H locs 0 0 QQ (F0 m pc ls [.int x])) (a1 : Int32) (a2 : Int32) (a3 : Int32) (a4 : Int32) (a5 : Int32) (a6 : Int32) (v : VV) (H : Heap) (locs : List Loc) (ls : Array Slot) (hw : b_X10_isGood_198  Q  a1 a2 a3 a4 a5 a6 v) : lv_has ls 7 [(0, .ref (base + 816)), (1, .int a1), (2, .int a2), (3, .int a3), (4, .int a4), (5, .int a5), (6, .int a6)] → va_P (dC, dI) vwCl (Wd base cy rf v 874) H → va_S (fun q => base ≤ q) s.heap H locs → W p l e { frames := 1, cells := 0, slots := 0, locals := 23 } s m args below meth c H locs 0 0 QQ (F0 m 198 ls []) := by
  intro hl hP hS
  refine lv_iconst (v := 0) hx hb dX10_isGood_198 (by decide) ?_
  exact hret _ _ _ _ _ _ dX10_isGood_199 (by decide) hw hP hS
def b_X10_isGood_159  (Q : Int32 → VV → Prop) (a1 : Int32) (a2 : Int32) (a3 : Int32) (a4 : Int32) (a5 : Int32) (s0 : Int32) (v : VV) : Prop :=
  ∀ x168 : Int32, x168 = a4 - 3 → vp_in x168 20 ∧ ∀ x169 : Int32, x169 = v 872 (Int32.toNatClampNeg x168) → (¬ x169 = 195 → b_X10_isGood_198  Q  a1 a2 a3 a4 a5 s0 v) ∧ (x169 = 195 → ∀ x183 : Int32, x183 = a4 - 2 → vp_in x183 20 ∧ ∀ x184 : Int32, x184 = v 872 (Int32.toNatClampNeg x183) → (¬ x184 = 2 → b_X10_isGood_198  Q  a1 a2 a3 a4 a5 s0 v) ∧ (x184 = 2 → (s0 = 0 → b_X10_isGood_198  Q  a1 a2 a3 a4 a5 s0 v) ∧ (¬ s0 = 0 → Q 1 v)))
set_option maxHeartbeats 4000000 in
set_option maxRecDepth 100000 in
theorem tb_X10_isGood_159 {p : Program} {l : Launch} {e : Env} {s : State} {m : MethodId} {args : Array Value} {below : List Frame} {meth : Method} {c : Code} {QQ : State → Prop} {dC : Nat → ClassId} {dI : Nat → Nat → Nat} {base : Nat} {cy : Nat → ClassId} (hx : p.tables.exec = Jvm.exec) (hb : c.code = cX10_isGood) (hml : c.maxLocals = 7) (hown : s.vm.findClass RX10 = some m.cls) (hts : ∀ w ∈ TB, w.before args s = true) (hK : va_K (dC, dI) vwCl (tyL cy) s)  (Q : Int32 → VV → Prop) (hret : ∀ (pc : Nat) (x : Int32) (v : VV) (H : Heap) (locs : List Loc) (ls : Array Slot), decode cX10_isGood pc = .ok (.ireturn, 1) → (x = 0 ∨ x = 1) → Q x v → va_P (dC, dI) vwCl (Wd base cy rf v 874) H → va_S (fun q => base ≤ q) s.heap H locs → W p l e { frames := 1, cells := 0, slots := 0, locals := 23 } s m args below meth c H locs 0 0 QQ (F0 m pc ls [.int x])) (a1 : Int32) (a2 : Int32) (a3 : Int32) (a4 : Int32) (a5 : Int32) (s0 : Int32) (v : VV) (H : Heap) (locs : List Loc) (ls : Array Slot) (hw : b_X10_isGood_159  Q  a1 a2 a3 a4 a5 s0 v) : lv_has ls 7 [(0, .ref (base + 816)), (1, .int a1), (2, .int a2), (3, .int a3), (4, .int a4), (5, .int a5)] → va_P (dC, dI) vwCl (Wd base cy rf v 874) H → va_S (fun q => base ≤ q) s.heap H locs → W p l e { frames := 1, cells := 0, slots := 0, locals := 23 } s m args below meth c H locs 0 0 QQ (F0 m 159 ls [.int s0]) := by
  intro hl hP hS
  refine lv_istore (lv' := [(6, .int s0), (0, .ref (base + 816)), (1, .int a1), (2, .int a2), (3, .int a3), (4, .int a4), (5, .int a5)]) hx hb dX10_isGood_159 hl (by decide) rfl (fun ls hl => ?_)
  refine lv_aload_n hx hb dX10_isGood_161 rfl (lv_at hl 1 rfl) ?_
  refine w_gR (C := RX10) (T := TX10) (N := 64) (ci := 10) hx hb hts in10 hown hK hP 60 th10.1 th10 rfl (by decide) (ch10_60 th10).1 (hts _ mf_X10_177) dX10_isGood_162 ?_
  refine lv_iload hx hb dX10_isGood_165 (lv_at hl 5 rfl) ?_
  refine lv_iconst (v := 3) hx hb dX10_isGood_167 (by decide) ?_
  refine lv_isub hx hb dX10_isGood_168 ?_
  refine lv_topi (fun x168 ex168 => ?_)
  have hw := hw x168 ex168
  obtain ⟨hi1, hw⟩ := hw
  refine w_ia (N := 20) hx hb hK hP (ch10_60 th10).2.1.1 (ch10_60 th10).2.1 (ch10_60 th10).2.2 hi1 dX10_isGood_169 ?_
  refine lv_topi (fun x169 ex169 => ?_)
  have hw := hw x169 ex169
  refine lv_sipush (v := 195) hx hb dX10_isGood_170 (by decide) ?_
  refine lv_icmp_ne (tgt := 198) hx hb dX10_isGood_173 (by decide) (fun c173 => ?_) (fun c173 => ?_)
  · have hw := hw.1 c173
    exact tb_X10_isGood_198 hx hb hml hown hts hK  _ hret  a1 a2 a3 a4 a5 s0 v _ _ _ hw (lv_sub hl [1, 2, 3, 4, 5, 6, 0] rfl) hP hS
  · have hw := hw.2 c173
    refine lv_aload_n hx hb dX10_isGood_176 rfl (lv_at hl 1 rfl) ?_
    refine w_gR (C := RX10) (T := TX10) (N := 64) (ci := 10) hx hb hts in10 hown hK hP 60 th10.1 th10 rfl (by decide) (ch10_60 th10).1 (hts _ mf_X10_177) dX10_isGood_177 ?_
    refine lv_iload hx hb dX10_isGood_180 (lv_at hl 5 rfl) ?_
    refine lv_iconst (v := 2) hx hb dX10_isGood_182 (by decide) ?_
    refine lv_isub hx hb dX10_isGood_183 ?_
    refine lv_topi (fun x183 ex183 => ?_)
    have hw := hw x183 ex183
    obtain ⟨hi2, hw⟩ := hw
    refine w_ia (N := 20) hx hb hK hP (ch10_60 th10).2.1.1 (ch10_60 th10).2.1 (ch10_60 th10).2.2 hi2 dX10_isGood_184 ?_
    refine lv_topi (fun x184 ex184 => ?_)
    have hw := hw x184 ex184
    refine lv_iconst (v := 2) hx hb dX10_isGood_185 (by decide) ?_
    refine lv_icmp_ne (tgt := 198) hx hb dX10_isGood_186 (by decide) (fun c186 => ?_) (fun c186 => ?_)
    · have hw := hw.1 c186
      exact tb_X10_isGood_198 hx hb hml hown hts hK  _ hret  a1 a2 a3 a4 a5 s0 v _ _ _ hw (lv_sub hl [1, 2, 3, 4, 5, 6, 0] rfl) hP hS
    · have hw := hw.2 c186
      refine lv_iload hx hb dX10_isGood_189 (lv_at hl 0 rfl) ?_
      refine lv_if_eq (tgt := 198) hx hb dX10_isGood_191 (by decide) (fun c191 => ?_) (fun c191 => ?_)
      · have hw := hw.1 c191
        exact tb_X10_isGood_198 hx hb hml hown hts hK  _ hret  a1 a2 a3 a4 a5 s0 v _ _ _ hw (lv_sub hl [1, 2, 3, 4, 5, 6, 0] rfl) hP hS
      · have hw := hw.2 c191
        refine lv_iconst (v := 1) hx hb dX10_isGood_194 (by decide) ?_
        refine lv_goto (tgt := 199) hx hb dX10_isGood_195 (by decide) ?_
        exact hret _ _ _ _ _ _ dX10_isGood_199 (by decide) hw hP hS
def b_X10_isGood_151  (Q : Int32 → VV → Prop) (a1 : Int32) (a2 : Int32) (a3 : Int32) (a4 : Int32) (a5 : Int32) (s0 : Int32) (s1 : Int32) (v : VV) : Prop :=
  (¬ s1 = s0 → b_X10_isGood_159  Q  a1 a2 a3 a4 a5 0 v) ∧ (s1 = s0 → b_X10_isGood_159  Q  a1 a2 a3 a4 a5 1 v)
set_option maxHeartbeats 4000000 in
set_option maxRecDepth 100000 in
theorem tb_X10_isGood_151 {p : Program} {l : Launch} {e : Env} {s : State} {m : MethodId} {args : Array Value} {below : List Frame} {meth : Method} {c : Code} {QQ : State → Prop} {dC : Nat → ClassId} {dI : Nat → Nat → Nat} {base : Nat} {cy : Nat → ClassId} (hx : p.tables.exec = Jvm.exec) (hb : c.code = cX10_isGood) (hml : c.maxLocals = 7) (hown : s.vm.findClass RX10 = some m.cls) (hts : ∀ w ∈ TB, w.before args s = true) (hK : va_K (dC, dI) vwCl (tyL cy) s)  (Q : Int32 → VV → Prop) (hret : ∀ (pc : Nat) (x : Int32) (v : VV) (H : Heap) (locs : List Loc) (ls : Array Slot), decode cX10_isGood pc = .ok (.ireturn, 1) → (x = 0 ∨ x = 1) → Q x v → va_P (dC, dI) vwCl (Wd base cy rf v 874) H → va_S (fun q => base ≤ q) s.heap H locs → W p l e { frames := 1, cells := 0, slots := 0, locals := 23 } s m args below meth c H locs 0 0 QQ (F0 m pc ls [.int x])) (a1 : Int32) (a2 : Int32) (a3 : Int32) (a4 : Int32) (a5 : Int32) (s0 : Int32) (s1 : Int32) (v : VV) (H : Heap) (locs : List Loc) (ls : Array Slot) (hw : b_X10_isGood_151  Q  a1 a2 a3 a4 a5 s0 s1 v) : lv_has ls 7 [(0, .ref (base + 816)), (1, .int a1), (2, .int a2), (3, .int a3), (4, .int a4), (5, .int a5)] → va_P (dC, dI) vwCl (Wd base cy rf v 874) H → va_S (fun q => base ≤ q) s.heap H locs → W p l e { frames := 1, cells := 0, slots := 0, locals := 23 } s m args below meth c H locs 0 0 QQ (F0 m 151 ls [.int s0, .int s1]) := by
  intro hl hP hS
  refine lv_icmp_ne (tgt := 158) hx hb dX10_isGood_151 (by decide) (fun c151 => ?_) (fun c151 => ?_)
  · have hw := hw.1 c151
    refine lv_iconst (v := 0) hx hb dX10_isGood_158 (by decide) ?_
    exact tb_X10_isGood_159 hx hb hml hown hts hK  _ hret  a1 a2 a3 a4 a5 0 v _ _ _ hw (lv_sub hl [0, 1, 2, 3, 4, 5] rfl) hP hS
  · have hw := hw.2 c151
    refine lv_iconst (v := 1) hx hb dX10_isGood_154 (by decide) ?_
    refine lv_goto (tgt := 159) hx hb dX10_isGood_155 (by decide) ?_
    exact tb_X10_isGood_159 hx hb hml hown hts hK  _ hret  a1 a2 a3 a4 a5 1 v _ _ _ hw (lv_sub hl [0, 1, 2, 3, 4, 5] rfl) hP hS
def b_X10_isGood_134  (Q : Int32 → VV → Prop) (a1 : Int32) (a2 : Int32) (a3 : Int32) (a4 : Int32) (a5 : Int32) (v : VV) : Prop :=
  b_X10_isGood_159  Q  a1 a2 a3 a4 a5 0 v
set_option maxHeartbeats 4000000 in
set_option maxRecDepth 100000 in
theorem tb_X10_isGood_134 {p : Program} {l : Launch} {e : Env} {s : State} {m : MethodId} {args : Array Value} {below : List Frame} {meth : Method} {c : Code} {QQ : State → Prop} {dC : Nat → ClassId} {dI : Nat → Nat → Nat} {base : Nat} {cy : Nat → ClassId} (hx : p.tables.exec = Jvm.exec) (hb : c.code = cX10_isGood) (hml : c.maxLocals = 7) (hown : s.vm.findClass RX10 = some m.cls) (hts : ∀ w ∈ TB, w.before args s = true) (hK : va_K (dC, dI) vwCl (tyL cy) s)  (Q : Int32 → VV → Prop) (hret : ∀ (pc : Nat) (x : Int32) (v : VV) (H : Heap) (locs : List Loc) (ls : Array Slot), decode cX10_isGood pc = .ok (.ireturn, 1) → (x = 0 ∨ x = 1) → Q x v → va_P (dC, dI) vwCl (Wd base cy rf v 874) H → va_S (fun q => base ≤ q) s.heap H locs → W p l e { frames := 1, cells := 0, slots := 0, locals := 23 } s m args below meth c H locs 0 0 QQ (F0 m pc ls [.int x])) (a1 : Int32) (a2 : Int32) (a3 : Int32) (a4 : Int32) (a5 : Int32) (v : VV) (H : Heap) (locs : List Loc) (ls : Array Slot) (hw : b_X10_isGood_134  Q  a1 a2 a3 a4 a5 v) : lv_has ls 7 [(0, .ref (base + 816)), (1, .int a1), (2, .int a2), (3, .int a3), (4, .int a4), (5, .int a5)] → va_P (dC, dI) vwCl (Wd base cy rf v 874) H → va_S (fun q => base ≤ q) s.heap H locs → W p l e { frames := 1, cells := 0, slots := 0, locals := 23 } s m args below meth c H locs 0 0 QQ (F0 m 134 ls []) := by
  intro hl hP hS
  refine lv_iconst (v := 0) hx hb dX10_isGood_134 (by decide) ?_
  refine lv_goto (tgt := 159) hx hb dX10_isGood_135 (by decide) ?_
  exact tb_X10_isGood_159 hx hb hml hown hts hK  _ hret  a1 a2 a3 a4 a5 0 v _ _ _ hw (lv_sub hl [0, 1, 2, 3, 4, 5] rfl) hP hS
def b_X10_isGood_98  (Q : Int32 → VV → Prop) (a1 : Int32) (a2 : Int32) (a3 : Int32) (a4 : Int32) (v : VV) : Prop :=
  Q 0 v
set_option maxHeartbeats 4000000 in
set_option maxRecDepth 100000 in
theorem tb_X10_isGood_98 {p : Program} {l : Launch} {e : Env} {s : State} {m : MethodId} {args : Array Value} {below : List Frame} {meth : Method} {c : Code} {QQ : State → Prop} {dC : Nat → ClassId} {dI : Nat → Nat → Nat} {base : Nat} {cy : Nat → ClassId} (hx : p.tables.exec = Jvm.exec) (hb : c.code = cX10_isGood) (hml : c.maxLocals = 7) (hown : s.vm.findClass RX10 = some m.cls) (hts : ∀ w ∈ TB, w.before args s = true) (hK : va_K (dC, dI) vwCl (tyL cy) s)  (Q : Int32 → VV → Prop) (hret : ∀ (pc : Nat) (x : Int32) (v : VV) (H : Heap) (locs : List Loc) (ls : Array Slot), decode cX10_isGood pc = .ok (.ireturn, 1) → (x = 0 ∨ x = 1) → Q x v → va_P (dC, dI) vwCl (Wd base cy rf v 874) H → va_S (fun q => base ≤ q) s.heap H locs → W p l e { frames := 1, cells := 0, slots := 0, locals := 23 } s m args below meth c H locs 0 0 QQ (F0 m pc ls [.int x])) (a1 : Int32) (a2 : Int32) (a3 : Int32) (a4 : Int32) (v : VV) (H : Heap) (locs : List Loc) (ls : Array Slot) (hw : b_X10_isGood_98  Q  a1 a2 a3 a4 v) : lv_has ls 7 [(0, .ref (base + 816)), (1, .int a1), (2, .int a2), (3, .int a3), (4, .int a4)] → va_P (dC, dI) vwCl (Wd base cy rf v 874) H → va_S (fun q => base ≤ q) s.heap H locs → W p l e { frames := 1, cells := 0, slots := 0, locals := 23 } s m args below meth c H locs 0 0 QQ (F0 m 98 ls []) := by
  intro hl hP hS
  refine lv_iconst (v := 0) hx hb dX10_isGood_98 (by decide) ?_
  exact hret _ _ _ _ _ _ dX10_isGood_99 (by decide) hw hP hS
def b_X10_isGood_6  (Q : Int32 → VV → Prop) (fu : Nat) : Int32 → Int32 → Int32 → VV → Prop :=
  Nat.rec (motive := fun _ => Int32 → Int32 → Int32 → VV → Prop) (fun _ _ _ _ => False) (fun _ ih a1 a2 a3 v => ∀ x8 : Int32, x8 = v 816 61 → (x8 < a3 → ∀ x56 : Int32, x56 = v 872 (Int32.toNatClampNeg 1) → w_X10_codeOf x56 v (fun (x57 : Int32) (v1 : VV) => w_X10_headOf x57 v1 (fun (x62 : Int32) (v2 : VV) => ∀ x71 : Int32, x71 = a1 - a1 / 255 * 255 → (¬ x71 = 0 → b_X10_isGood_98  Q  a1 a2 x57 x62 v2) ∧ (x71 = 0 → ∀ x79 : Int32, x79 = a2 - a2 / 255 * 255 → (¬ x79 = 0 → b_X10_isGood_98  Q  a1 a2 x57 x62 v2) ∧ (x79 = 0 → (x57 = 0 → b_X10_isGood_98  Q  a1 a2 x57 x62 v2) ∧ (¬ x57 = 0 → ∀ x92 : Int32, x92 = v2 872 (Int32.toNatClampNeg 0) → (x92 = x62 → ∀ x101 : Int32, x101 = v2 816 61 → ∀ x106 : Int32, x106 = x101 - x62 → ∀ x108 : Int32, x108 = x106 - 1 → (¬ x57 = 240 → (¬ x57 = 16 → b_X10_isGood_151  Q  a1 a2 x57 x62 x108 0 x108 v2) ∧ (x57 = 16 → b_X10_isGood_151  Q  a1 a2 x57 x62 x108 1 x108 v2)) ∧ (x57 = 240 → (x108 < 0 → b_X10_isGood_134  Q  a1 a2 x57 x62 x108 v2) ∧ (¬ x108 < 0 → (8 < x108 → b_X10_isGood_134  Q  a1 a2 x57 x62 x108 v2) ∧ (¬ 8 < x108 → b_X10_isGood_159  Q  a1 a2 x57 x62 x108 1 v2)))) ∧ (¬ x92 = x62 → b_X10_isGood_98  Q  a1 a2 x57 x62 v2))))))) ∧ (¬ x8 < a3 → ∀ x21 : Int32, x21 = a3 - 1 → vp_in x21 20 ∧ ∀ x22 : Int32, x22 = v 872 (Int32.toNatClampNeg x21) → ∀ x23 : Int32, x23 = a1 + x22 → ∀ x27 : Int32, x27 = v 816 61 → ∀ x31 : Int32, x31 = x27 - a3 → ∀ x33 : Int32, x33 = x31 + 1 → ∀ x40 : Int32, x40 = a3 - 1 → vp_in x40 20 ∧ ∀ x41 : Int32, x41 = v 872 (Int32.toNatClampNeg x40) → ∀ x42 : Int32, x42 = x33 * x41 → ∀ x43 : Int32, x43 = a2 + x42 → ∀ x45 : Int32, x45 = a3 + 1 → ih x23 x43 x45 v)) fu
set_option maxHeartbeats 4000000 in
set_option maxRecDepth 100000 in
theorem tb_X10_isGood_6 {p : Program} {l : Launch} {e : Env} {s : State} {m : MethodId} {args : Array Value} {below : List Frame} {meth : Method} {c : Code} {QQ : State → Prop} {dC : Nat → ClassId} {dI : Nat → Nat → Nat} {base : Nat} {cy : Nat → ClassId} (hx : p.tables.exec = Jvm.exec) (hb : c.code = cX10_isGood) (hml : c.maxLocals = 7) (hown : s.vm.findClass RX10 = some m.cls) (hts : ∀ w ∈ TB, w.before args s = true) (hK : va_K (dC, dI) vwCl (tyL cy) s)  (Q : Int32 → VV → Prop) (hret : ∀ (pc : Nat) (x : Int32) (v : VV) (H : Heap) (locs : List Loc) (ls : Array Slot), decode cX10_isGood pc = .ok (.ireturn, 1) → (x = 0 ∨ x = 1) → Q x v → va_P (dC, dI) vwCl (Wd base cy rf v 874) H → va_S (fun q => base ≤ q) s.heap H locs → W p l e { frames := 1, cells := 0, slots := 0, locals := 23 } s m args below meth c H locs 0 0 QQ (F0 m pc ls [.int x])) : ∀ (fu : Nat) (a1 : Int32) (a2 : Int32) (a3 : Int32) (v : VV) (H : Heap) (locs : List Loc) (ls : Array Slot), b_X10_isGood_6  Q  fu a1 a2 a3 v → lv_has ls 7 [(0, .ref (base + 816)), (1, .int a1), (2, .int a2), (3, .int a3)] → va_P (dC, dI) vwCl (Wd base cy rf v 874) H → va_S (fun q => base ≤ q) s.heap H locs → W p l e { frames := 1, cells := 0, slots := 0, locals := 23 } s m args below meth c H locs 0 0 QQ (F0 m 6 ls []) := by
  intro fu
  induction fu with
  | zero =>
    intro a1 a2 a3 v H locs ls hw hl hP hS
    exact hw.elim
  | succ fu ih =>
    intro a1 a2 a3 v H locs ls hw hl hP hS
    refine lv_iload_n hx hb dX10_isGood_6 rfl (lv_at hl 3 rfl) ?_
    refine lv_aload_n hx hb dX10_isGood_7 rfl (lv_at hl 0 rfl) ?_
    refine w_gI (C := RX10) (T := TX10) (N := 64) (ci := 10) hx hb hts in10 hown hK hP 61 th10.1 th10 rfl (by decide) (hts _ mf_X10_259) dX10_isGood_8 ?_
    refine lv_topi (fun x8 ex8 => ?_)
    have hw := hw x8 ex8
    refine lv_icmp_gt (tgt := 51) hx hb dX10_isGood_11 (by decide) (fun c11 => ?_) (fun c11 => ?_)
    · have hw := hw.1 c11
      refine lv_aload_n hx hb dX10_isGood_51 rfl (lv_at hl 0 rfl) ?_
      refine w_gR (C := RX10) (T := TX10) (N := 64) (ci := 10) hx hb hts in10 hown hK hP 60 th10.1 th10 rfl (by decide) (ch10_60 th10).1 (hts _ mf_X10_177) dX10_isGood_52 ?_
      refine lv_iconst (v := 1) hx hb dX10_isGood_55 (by decide) ?_
      refine w_ia (N := 20) hx hb hK hP (ch10_60 th10).2.1.1 (ch10_60 th10).2.1 (ch10_60 th10).2.2 (vp_in_nI (n := 1) (by decide) (by decide)) dX10_isGood_56 ?_
      refine lv_topi (fun x56 ex56 => ?_)
      have hw := hw x56 ex56
      refine kS_I (As := [.int x56]) (rest := []) ⟨hx, hb, hml, hown, hts⟩ (t_X10_codeOf l dC dI base cy x56 v _ hw) (cwS 1 hts (gS ml_X10_262 mt_X10_codeOf mn_X10 mo_X10_codeOf) rfl rfl rfl (by decide +kernel) ⟨by decide, by decide⟩) hK hP hS rfl hl.1 rfl (Nat.le_of_ble_eq_true rfl) dX10_isGood_57 ⟨Nat.zero_le _, Nat.zero_le _⟩ (fun x57 v1 H locs hw hP hS => ?_)
      refine lv_istore_n (lv' := [(3, .int x57), (0, .ref (base + 816)), (1, .int a1), (2, .int a2)]) hx hb dX10_isGood_60 rfl hl (by decide) rfl (fun ls hl => ?_)
      refine lv_iload_n hx hb dX10_isGood_61 rfl (lv_at hl 0 rfl) ?_
      refine kS_I (As := [.int x57]) (rest := []) ⟨hx, hb, hml, hown, hts⟩ (t_X10_headOf l dC dI base cy x57 v1 _ hw) (cwS 1 hts (gS ml_X10_265 mt_X10_headOf mn_X10 mo_X10_headOf) rfl rfl rfl (by decide +kernel) ⟨by decide, by decide⟩) hK hP hS rfl hl.1 rfl (Nat.le_of_ble_eq_true rfl) dX10_isGood_62 ⟨Nat.zero_le _, Nat.zero_le _⟩ (fun x62 v2 H locs hw hP hS => ?_)
      refine lv_istore (lv' := [(4, .int x62), (3, .int x57), (0, .ref (base + 816)), (1, .int a1), (2, .int a2)]) hx hb dX10_isGood_65 hl (by decide) rfl (fun ls hl => ?_)
      refine lv_iload_n hx hb dX10_isGood_67 rfl (lv_at hl 3 rfl) ?_
      refine lv_sipush (v := 255) hx hb dX10_isGood_68 (by decide) ?_
      refine lv_irem hx hb dX10_isGood_71 (by decide) ?_
      refine lv_topi (fun x71 ex71 => ?_)
      have hw := hw x71 ex71
      refine lv_if_ne (tgt := 98) hx hb dX10_isGood_72 (by decide) (fun c72 => ?_) (fun c72 => ?_)
      · have hw := hw.1 c72
        exact tb_X10_isGood_98 hx hb hml hown hts hK  _ hret  a1 a2 x57 x62 v2 _ _ _ hw (lv_sub hl [2, 3, 4, 1, 0] rfl) hP hS
      · have hw := hw.2 c72
        refine lv_iload_n hx hb dX10_isGood_75 rfl (lv_at hl 4 rfl) ?_
        refine lv_sipush (v := 255) hx hb dX10_isGood_76 (by decide) ?_
        refine lv_irem hx hb dX10_isGood_79 (by decide) ?_
        refine lv_topi (fun x79 ex79 => ?_)
        have hw := hw x79 ex79
        refine lv_if_ne (tgt := 98) hx hb dX10_isGood_80 (by decide) (fun c80 => ?_) (fun c80 => ?_)
        · have hw := hw.1 c80
          exact tb_X10_isGood_98 hx hb hml hown hts hK  _ hret  a1 a2 x57 x62 v2 _ _ _ hw (lv_sub hl [2, 3, 4, 1, 0] rfl) hP hS
        · have hw := hw.2 c80
          refine lv_iload_n hx hb dX10_isGood_83 rfl (lv_at hl 1 rfl) ?_
          refine lv_if_eq (tgt := 98) hx hb dX10_isGood_84 (by decide) (fun c84 => ?_) (fun c84 => ?_)
          · have hw := hw.1 c84
            exact tb_X10_isGood_98 hx hb hml hown hts hK  _ hret  a1 a2 x57 x62 v2 _ _ _ hw (lv_sub hl [2, 3, 4, 1, 0] rfl) hP hS
          · have hw := hw.2 c84
            refine lv_aload_n hx hb dX10_isGood_87 rfl (lv_at hl 2 rfl) ?_
            refine w_gR (C := RX10) (T := TX10) (N := 64) (ci := 10) hx hb hts in10 hown hK hP 60 th10.1 th10 rfl (by decide) (ch10_60 th10).1 (hts _ mf_X10_177) dX10_isGood_88 ?_
            refine lv_iconst (v := 0) hx hb dX10_isGood_91 (by decide) ?_
            refine w_ia (N := 20) hx hb hK hP (ch10_60 th10).2.1.1 (ch10_60 th10).2.1 (ch10_60 th10).2.2 (vp_in_nI (n := 0) (by decide) (by decide)) dX10_isGood_92 ?_
            refine lv_topi (fun x92 ex92 => ?_)
            have hw := hw x92 ex92
            refine lv_iload hx hb dX10_isGood_93 (lv_at hl 0 rfl) ?_
            refine lv_icmp_eq (tgt := 100) hx hb dX10_isGood_95 (by decide) (fun c95 => ?_) (fun c95 => ?_)
            · have hw := hw.1 c95
              refine lv_aload_n hx hb dX10_isGood_100 rfl (lv_at hl 2 rfl) ?_
              refine w_gI (C := RX10) (T := TX10) (N := 64) (ci := 10) hx hb hts in10 hown hK hP 61 th10.1 th10 rfl (by decide) (hts _ mf_X10_259) dX10_isGood_101 ?_
              refine lv_topi (fun x101 ex101 => ?_)
              have hw := hw x101 ex101
              refine lv_iload hx hb dX10_isGood_104 (lv_at hl 0 rfl) ?_
              refine lv_isub hx hb dX10_isGood_106 ?_
              refine lv_topi (fun x106 ex106 => ?_)
              have hw := hw x106 ex106
              refine lv_iconst (v := 1) hx hb dX10_isGood_107 (by decide) ?_
              refine lv_isub hx hb dX10_isGood_108 ?_
              refine lv_topi (fun x108 ex108 => ?_)
              have hw := hw x108 ex108
              refine lv_istore (lv' := [(5, .int x108), (4, .int x62), (3, .int x57), (0, .ref (base + 816)), (1, .int a1), (2, .int a2)]) hx hb dX10_isGood_109 hl (by decide) rfl (fun ls hl => ?_)
              refine lv_iload_n hx hb dX10_isGood_111 rfl (lv_at hl 2 rfl) ?_
              refine lv_sipush (v := 240) hx hb dX10_isGood_112 (by decide) ?_
              refine lv_icmp_ne (tgt := 138) hx hb dX10_isGood_115 (by decide) (fun c115 => ?_) (fun c115 => ?_)
              · have hw := hw.1 c115
                refine lv_iload hx hb dX10_isGood_138 (lv_at hl 0 rfl) ?_
                refine lv_iload_n hx hb dX10_isGood_140 rfl (lv_at hl 2 rfl) ?_
                refine lv_bipush (v := 16) hx hb dX10_isGood_141 (by decide) ?_
                refine lv_icmp_ne (tgt := 150) hx hb dX10_isGood_143 (by decide) (fun c143 => ?_) (fun c143 => ?_)
                · have hw := hw.1 c143
                  refine lv_iconst (v := 0) hx hb dX10_isGood_150 (by decide) ?_
                  exact tb_X10_isGood_151 hx hb hml hown hts hK  _ hret  a1 a2 x57 x62 x108 0 x108 v2 _ _ _ hw (lv_sub hl [3, 4, 5, 2, 1, 0] rfl) hP hS
                · have hw := hw.2 c143
                  refine lv_iconst (v := 1) hx hb dX10_isGood_146 (by decide) ?_
                  refine lv_goto (tgt := 151) hx hb dX10_isGood_147 (by decide) ?_
                  exact tb_X10_isGood_151 hx hb hml hown hts hK  _ hret  a1 a2 x57 x62 x108 1 x108 v2 _ _ _ hw (lv_sub hl [3, 4, 5, 2, 1, 0] rfl) hP hS
              · have hw := hw.2 c115
                refine lv_iload hx hb dX10_isGood_118 (lv_at hl 0 rfl) ?_
                refine lv_if_lt (tgt := 134) hx hb dX10_isGood_120 (by decide) (fun c120 => ?_) (fun c120 => ?_)
                · have hw := hw.1 c120
                  exact tb_X10_isGood_134 hx hb hml hown hts hK  _ hret  a1 a2 x57 x62 x108 v2 _ _ _ hw (lv_sub hl [3, 4, 5, 2, 1, 0] rfl) hP hS
                · have hw := hw.2 c120
                  refine lv_iload hx hb dX10_isGood_123 (lv_at hl 0 rfl) ?_
                  refine lv_bipush (v := 8) hx hb dX10_isGood_125 (by decide) ?_
                  refine lv_icmp_gt (tgt := 134) hx hb dX10_isGood_127 (by decide) (fun c127 => ?_) (fun c127 => ?_)
                  · have hw := hw.1 c127
                    exact tb_X10_isGood_134 hx hb hml hown hts hK  _ hret  a1 a2 x57 x62 x108 v2 _ _ _ hw (lv_sub hl [3, 4, 5, 2, 1, 0] rfl) hP hS
                  · have hw := hw.2 c127
                    refine lv_iconst (v := 1) hx hb dX10_isGood_130 (by decide) ?_
                    refine lv_goto (tgt := 159) hx hb dX10_isGood_131 (by decide) ?_
                    exact tb_X10_isGood_159 hx hb hml hown hts hK  _ hret  a1 a2 x57 x62 x108 1 v2 _ _ _ hw (lv_sub hl [3, 4, 5, 2, 1, 0] rfl) hP hS
            · have hw := hw.2 c95
              exact tb_X10_isGood_98 hx hb hml hown hts hK  _ hret  a1 a2 x57 x62 v2 _ _ _ hw (lv_sub hl [2, 3, 4, 1, 0] rfl) hP hS
    · have hw := hw.2 c11
      refine lv_iload_n hx hb dX10_isGood_14 rfl (lv_at hl 1 rfl) ?_
      refine lv_aload_n hx hb dX10_isGood_15 rfl (lv_at hl 0 rfl) ?_
      refine w_gR (C := RX10) (T := TX10) (N := 64) (ci := 10) hx hb hts in10 hown hK hP 60 th10.1 th10 rfl (by decide) (ch10_60 th10).1 (hts _ mf_X10_177) dX10_isGood_16 ?_
      refine lv_iload_n hx hb dX10_isGood_19 rfl (lv_at hl 3 rfl) ?_
      refine lv_iconst (v := 1) hx hb dX10_isGood_20 (by decide) ?_
      refine lv_isub hx hb dX10_isGood_21 ?_
      refine lv_topi (fun x21 ex21 => ?_)
      have hw := hw x21 ex21
      obtain ⟨hi3, hw⟩ := hw
      refine w_ia (N := 20) hx hb hK hP (ch10_60 th10).2.1.1 (ch10_60 th10).2.1 (ch10_60 th10).2.2 hi3 dX10_isGood_22 ?_
      refine lv_topi (fun x22 ex22 => ?_)
      have hw := hw x22 ex22
      refine lv_iadd hx hb dX10_isGood_23 ?_
      refine lv_topi (fun x23 ex23 => ?_)
      have hw := hw x23 ex23
      refine lv_istore_n (lv' := [(1, .int x23), (0, .ref (base + 816)), (2, .int a2), (3, .int a3)]) hx hb dX10_isGood_24 rfl hl (by decide) rfl (fun ls hl => ?_)
      refine lv_iload_n hx hb dX10_isGood_25 rfl (lv_at hl 2 rfl) ?_
      refine lv_aload_n hx hb dX10_isGood_26 rfl (lv_at hl 1 rfl) ?_
      refine w_gI (C := RX10) (T := TX10) (N := 64) (ci := 10) hx hb hts in10 hown hK hP 61 th10.1 th10 rfl (by decide) (hts _ mf_X10_259) dX10_isGood_27 ?_
      refine lv_topi (fun x27 ex27 => ?_)
      have hw := hw x27 ex27
      refine lv_iload_n hx hb dX10_isGood_30 rfl (lv_at hl 3 rfl) ?_
      refine lv_isub hx hb dX10_isGood_31 ?_
      refine lv_topi (fun x31 ex31 => ?_)
      have hw := hw x31 ex31
      refine lv_iconst (v := 1) hx hb dX10_isGood_32 (by decide) ?_
      refine lv_iadd hx hb dX10_isGood_33 ?_
      refine lv_topi (fun x33 ex33 => ?_)
      have hw := hw x33 ex33
      refine lv_aload_n hx hb dX10_isGood_34 rfl (lv_at hl 1 rfl) ?_
      refine w_gR (C := RX10) (T := TX10) (N := 64) (ci := 10) hx hb hts in10 hown hK hP 60 th10.1 th10 rfl (by decide) (ch10_60 th10).1 (hts _ mf_X10_177) dX10_isGood_35 ?_
      refine lv_iload_n hx hb dX10_isGood_38 rfl (lv_at hl 3 rfl) ?_
      refine lv_iconst (v := 1) hx hb dX10_isGood_39 (by decide) ?_
      refine lv_isub hx hb dX10_isGood_40 ?_
      refine lv_topi (fun x40 ex40 => ?_)
      have hw := hw x40 ex40
      obtain ⟨hi4, hw⟩ := hw
      refine w_ia (N := 20) hx hb hK hP (ch10_60 th10).2.1.1 (ch10_60 th10).2.1 (ch10_60 th10).2.2 hi4 dX10_isGood_41 ?_
      refine lv_topi (fun x41 ex41 => ?_)
      have hw := hw x41 ex41
      refine lv_imul hx hb dX10_isGood_42 ?_
      refine lv_topi (fun x42 ex42 => ?_)
      have hw := hw x42 ex42
      refine lv_iadd hx hb dX10_isGood_43 ?_
      refine lv_topi (fun x43 ex43 => ?_)
      have hw := hw x43 ex43
      refine lv_istore_n (lv' := [(2, .int x43), (1, .int x23), (0, .ref (base + 816)), (3, .int a3)]) hx hb dX10_isGood_44 rfl hl (by decide) rfl (fun ls hl => ?_)
      obtain ⟨x45, ex45⟩ : ∃ y : Int32, y = a3 + 1 := ⟨_, rfl⟩
      have hw := hw x45 ex45
      refine lv_iinc (v := x45) (lv' := [(3, .int x45), (2, .int x43), (1, .int x23), (0, .ref (base + 816))]) hx hb dX10_isGood_45 hl (k := 3) rfl (by rw [ex45]; first | rfl | (rw [show Int32.ofInt (-1) = (-1 : Int32) from by decide])) (by decide) rfl (fun ls hl => ?_)
      refine lv_goto (tgt := 6) hx hb dX10_isGood_48 (by decide) ?_
      exact ih x23 x43 x45 v _ _ _ hw (lv_sub hl [3, 2, 1, 0] rfl) hP hS
def w_X10_isGood  (v : VV) (Q : Int32 → VV → Prop) : Prop :=
  ∃ fu : Nat, b_X10_isGood_6  Q  fu 0 0 1 v
set_option maxHeartbeats 4000000 in
set_option maxRecDepth 100000 in
/-- TransportFourModel.isGood -/
theorem t_X10_isGood (l : Launch) (dC : Nat → ClassId) (dI : Nat → Nat → Nat) (base : Nat) (cy : Nat → ClassId)  (v : VV) (Q : Int32 → VV → Prop) (hw : w_X10_isGood  v Q) : CI l yX10_isGood (.code yX10_isGood cX10_isGood 7 (some .boolean) :: TB) { frames := 1, cells := 0, slots := 0, locals := 23 } dC dI base cy [.ref (base + 816)] v Q := by
  refine Met.ofW (cc := cX10_isGood) (maxL := 7) (ret := (some .boolean)) (by decide) rfl ?_
  intro p e s m args below meth c s₁ B hml hv
  obtain ⟨rfl, hP, hK⟩ := hv
  have hx := B.exec
  have hb := B.bytes
  have hr := B.returns
  have hts0 := atoms_spec (ws := (.code yX10_isGood cX10_isGood 7 (some .boolean) :: TB)) B.pre
  have hts : ∀ w ∈ TB, w.before ([.ref (base + 816)]).toArray s = true := fun w h => hts0 w (List.mem_cons_of_mem _ h)
  have hown : s.vm.findClass RX10 = some m.cls := findClass_of_methodNamed B.named
  have hlocks := B.notSynchronized
  have hS : va_S (fun q => base ≤ q) s.heap s.heap [] := va_S.rf
  have hl := lv_entry ([.ref (base + 816)]) (n := 7) (Nat.le_of_ble_eq_true rfl)
  rw [lg_entry_eq]
  generalize (lg_sl ([.ref (base + 816)]) ++ List.replicate (7 - (lg_sl ([.ref (base + 816)])).length) Slot.unset).toArray = ls at hl ⊢
  have hl : lv_has ls 7 [(0, .ref (base + 816))] := hl
  have hret : ∀ (pc : Nat) (x : Int32) (v : VV) (H : Heap) (locs : List Loc) (ls : Array Slot), decode cX10_isGood pc = .ok (.ireturn, 1) → (x = 0 ∨ x = 1) → Q x v → va_P (dC, dI) vwCl (Wd base cy rf v 874) H → va_S (fun q => base ≤ q) s.heap H locs → W p l e { frames := 1, cells := 0, slots := 0, locals := 23 } s m ([.ref (base + 816)]).toArray below meth c H locs 0 0 (MQ below (va_Qi Q (Hp dC dI base cy) (fun q => base ≤ q)) ([.ref (base + 816)]).toArray s 0 0 (fun q => base ≤ q)) (F0 m pc ls [.int x]) := fun pc x v H locs ls hd hz hq hP hS => W.zret (v := x) hx hb hr (zb_n hz) (fun t ht hW => ⟨⟨x, v, rfl, hq, by rw [ht]; exact hP, va_K.moved hW.alike hK⟩, hS.F ht⟩) hS.2.2 hd
  refine lv_iconst (v := 0) hx hb dX10_isGood_0 (by decide) ?_
  refine lv_istore_n (lv' := [(1, .int 0), (0, .ref (base + 816))]) hx hb dX10_isGood_1 rfl hl (by decide) rfl (fun ls hl => ?_)
  refine lv_iconst (v := 0) hx hb dX10_isGood_2 (by decide) ?_
  refine lv_istore_n (lv' := [(2, .int 0), (1, .int 0), (0, .ref (base + 816))]) hx hb dX10_isGood_3 rfl hl (by decide) rfl (fun ls hl => ?_)
  refine lv_iconst (v := 1) hx hb dX10_isGood_4 (by decide) ?_
  refine lv_istore_n (lv' := [(3, .int 1), (2, .int 0), (1, .int 0), (0, .ref (base + 816))]) hx hb dX10_isGood_5 rfl hl (by decide) rfl (fun ls hl => ?_)
  obtain ⟨fu, hw⟩ := hw
  exact tb_X10_isGood_6 hx hb hml hown hts hK  _ hret  fu 0 0 1 v _ _ _ hw (lv_sub hl [3, 2, 1, 0] rfl) hP hS
def b_X10_arriveCall_116 (p1 : Int32) (Q : VV → Prop) (a1 : Int32) (a2 : Int32) (v : VV) : Prop :=
  w_X10_sendCode a1 128 a2 0 2 v (fun (v1 : VV) => Q v1)
set_option maxHeartbeats 4000000 in
set_option maxRecDepth 100000 in
theorem tb_X10_arriveCall_116 {p : Program} {l : Launch} {e : Env} {s : State} {m : MethodId} {args : Array Value} {below : List Frame} {meth : Method} {c : Code} {QQ : State → Prop} {dC : Nat → ClassId} {dI : Nat → Nat → Nat} {base : Nat} {cy : Nat → ClassId} (hx : p.tables.exec = Jvm.exec) (hb : c.code = cX10_arriveCall) (hml : c.maxLocals = 3) (hown : s.vm.findClass RX10 = some m.cls) (hts : ∀ w ∈ TB, w.before args s = true) (hK : va_K (dC, dI) vwCl (tyL cy) s) (p1 : Int32) (Q : VV → Prop) (hret : ∀ (pc : Nat) (v : VV) (H : Heap) (locs : List Loc) (ls : Array Slot), decode cX10_arriveCall pc = .ok (.return_, 1) → Q v → va_P (dC, dI) vwCl (Wd base cy rf v 874) H → va_S (fun q => base ≤ q) s.heap H locs → W p l e { frames := 3, cells := 0, slots := 0, locals := 69 } s m args below meth c H locs 0 0 QQ (F0 m pc ls [])) (a1 : Int32) (a2 : Int32) (v : VV) (H : Heap) (locs : List Loc) (ls : Array Slot) (hw : b_X10_arriveCall_116 p1 Q  a1 a2 v) : lv_has ls 3 [(0, .ref (base + 816)), (1, .int a1), (2, .int a2)] → va_P (dC, dI) vwCl (Wd base cy rf v 874) H → va_S (fun q => base ≤ q) s.heap H locs → W p l e { frames := 3, cells := 0, slots := 0, locals := 69 } s m args below meth c H locs 0 0 QQ (F0 m 116 ls []) := by
  intro hl hP hS
  refine lv_aload_n hx hb dX10_arriveCall_116 rfl (lv_at hl 0 rfl) ?_
  refine lv_iload_n hx hb dX10_arriveCall_117 rfl (lv_at hl 1 rfl) ?_
  refine lv_sipush (v := 128) hx hb dX10_arriveCall_118 (by decide) ?_
  refine lv_iload_n hx hb dX10_arriveCall_121 rfl (lv_at hl 2 rfl) ?_
  refine lv_iconst (v := 0) hx hb dX10_arriveCall_122 (by decide) ?_
  refine lv_iconst (v := 2) hx hb dX10_arriveCall_123 (by decide) ?_
  refine k_V (As := [.int a1, .int 128, .int a2, .int 0, .int 2]) (rest := []) ⟨hx, hb, hml, hown, hts⟩ (t_X10_sendCode l dC dI base cy a1 128 a2 0 2 v _ hw) (cwV 5 hts (gV ml_X10_238 mi_X10_sendCode mx_X10_sendCode mn_X10 mo_X10_sendCode) rfl rfl rfl (by decide +kernel) ⟨by decide, by decide⟩) hK hP hS th10 (by decide) rfl rfl hl.1 rfl (Nat.le_of_ble_eq_true rfl) dX10_arriveCall_124 ⟨Nat.zero_le _, Nat.zero_le _⟩ (fun v1 H locs hw hP hS => ?_)
  exact hret _ _ _ _ _ dX10_arriveCall_127 hw hP hS
def w_X10_arriveCall (p1 : Int32) (v : VV) (Q : VV → Prop) : Prop :=
  w_X10_two 4 v (fun (x2 : Int32) (v1 : VV) => vp_in p1 2 ∧ ∀ x11 : Int32, x11 = v1 817 (Int32.toNatClampNeg p1) → (¬ x11 = 0 → vp_in p1 2 ∧ ∀ x92 : Int32, x92 = v1 817 (Int32.toNatClampNeg p1) → (¬ x92 = 2 → b_X10_arriveCall_116 p1 Q  p1 x2 v1) ∧ (x92 = 2 → vp_in p1 2 ∧ ∀ x102 : Int32, x102 = v1 820 (Int32.toNatClampNeg p1) → (x102 = 0 → b_X10_arriveCall_116 p1 Q  p1 x2 v1) ∧ (¬ x102 = 0 → vp_in p1 2 ∧ ∀ x111 : Int32, x111 = v1 819 (Int32.toNatClampNeg p1) → (x111 = x2 → Q v1) ∧ (¬ x111 = x2 → b_X10_arriveCall_116 p1 Q  p1 x2 v1)))) ∧ (x11 = 0 → w_X10_fresh p1 v1 (fun (v6 : VV) => vp_in p1 2 ∧ ∀ v7 : VV, v7 = up2 v6 817 (Int32.toNatClampNeg p1) 2 → vp_in p1 2 ∧ ∀ v9 : VV, v9 = up2 v7 820 (Int32.toNatClampNeg p1) (vp_nar .boolean 1) → vp_in p1 2 ∧ ∀ v11 : VV, v11 = up2 v9 819 (Int32.toNatClampNeg p1) x2 → ∀ x51 : Int32, x51 = v11 872 (Int32.toNatClampNeg 1) → ∀ x54 : Int32, x54 = x51 &&& 15 → vp_in p1 2 ∧ ∀ v13 : VV, v13 = up2 v11 840 (Int32.toNatClampNeg p1) x54 → w_X10_credit p1 v13 (fun (x63 : Int32) (v15 : VV) => ∀ x66 : Int32, x66 = 208 + x63 → vp_in p1 2 ∧ ∀ x73 : Int32, x73 = v15 818 (Int32.toNatClampNeg p1) → w_X10_sendCode p1 x66 x2 x73 64 v15 (fun (v17 : VV) => w_X10_wait p1 v17 (fun (v18 : VV) => Q v18))))))
set_option maxHeartbeats 4000000 in
set_option maxRecDepth 100000 in
/-- TransportFourModel.arriveCall -/
theorem t_X10_arriveCall (l : Launch) (dC : Nat → ClassId) (dI : Nat → Nat → Nat) (base : Nat) (cy : Nat → ClassId) (p1 : Int32) (v : VV) (Q : VV → Prop) (hw : w_X10_arriveCall p1 v Q) : CV l yX10_arriveCall (.code yX10_arriveCall cX10_arriveCall 3 none :: TB) { frames := 3, cells := 0, slots := 0, locals := 69 } dC dI base cy [.ref (base + 816), .int p1] v Q := by
  refine Met.ofW (cc := cX10_arriveCall) (maxL := 3) (ret := none) (by decide) rfl ?_
  intro p e s m args below meth c s₁ B hml hv
  obtain ⟨rfl, hP, hK⟩ := hv
  have hx := B.exec
  have hb := B.bytes
  have hr := B.returns
  have hts0 := atoms_spec (ws := (.code yX10_arriveCall cX10_arriveCall 3 none :: TB)) B.pre
  have hts : ∀ w ∈ TB, w.before ([.ref (base + 816), .int p1]).toArray s = true := fun w h => hts0 w (List.mem_cons_of_mem _ h)
  have hown : s.vm.findClass RX10 = some m.cls := findClass_of_methodNamed B.named
  have hlocks := B.notSynchronized
  have hS : va_S (fun q => base ≤ q) s.heap s.heap [] := va_S.rf
  have hl := lv_entry ([.ref (base + 816), .int p1]) (n := 3) (Nat.le_of_ble_eq_true rfl)
  rw [lg_entry_eq]
  generalize (lg_sl ([.ref (base + 816), .int p1]) ++ List.replicate (3 - (lg_sl ([.ref (base + 816), .int p1])).length) Slot.unset).toArray = ls at hl ⊢
  have hl : lv_has ls 3 [(0, .ref (base + 816)), (1, .int p1)] := hl
  have hret : ∀ (pc : Nat) (v : VV) (H : Heap) (locs : List Loc) (ls : Array Slot), decode cX10_arriveCall pc = .ok (.return_, 1) → Q v → va_P (dC, dI) vwCl (Wd base cy rf v 874) H → va_S (fun q => base ≤ q) s.heap H locs → W p l e { frames := 3, cells := 0, slots := 0, locals := 69 } s m ([.ref (base + 816), .int p1]).toArray below meth c H locs 0 0 (MQ below (va_Qv Q (Hp dC dI base cy) (fun q => base ≤ q)) ([.ref (base + 816), .int p1]).toArray s 0 0 (fun q => base ≤ q)) (F0 m pc ls []) := fun pc v H locs ls hd hq hP hS => W.vret hx hb hr (fun t ht hW => ⟨⟨v, rfl, hq, by rw [ht]; exact hP, va_K.moved hW.alike hK⟩, hS.F ht⟩) hS.2.2 hd
  refine lv_aload_n hx hb dX10_arriveCall_0 rfl (lv_at hl 0 rfl) ?_
  refine lv_iconst (v := 4) hx hb dX10_arriveCall_1 (by decide) ?_
  refine k_I (As := [.int 4]) (rest := []) ⟨hx, hb, hml, hown, hts⟩ (t_X10_two l dC dI base cy 4 v _ hw) (cwV 1 hts (gV ml_X10_268 mi_X10_two mx_X10_two mn_X10 mo_X10_two) rfl rfl rfl (by decide +kernel) ⟨by decide, by decide⟩) hK hP hS th10 (by decide) rfl rfl hl.1 rfl (Nat.le_of_ble_eq_true rfl) dX10_arriveCall_2 ⟨Nat.zero_le _, Nat.zero_le _⟩ (fun x2 v1 H locs hw hP hS => ?_)
  refine lv_istore_n (lv' := [(2, .int x2), (0, .ref (base + 816)), (1, .int p1)]) hx hb dX10_arriveCall_5 rfl hl (by decide) rfl (fun ls hl => ?_)
  refine lv_aload_n hx hb dX10_arriveCall_6 rfl (lv_at hl 1 rfl) ?_
  refine w_gR (C := RX10) (T := TX10) (N := 64) (ci := 10) hx hb hts in10 hown hK hP 1 th10.1 th10 rfl (by decide) (ch10_1 th10).1 (hts _ mf_X10_7) dX10_arriveCall_7 ?_
  refine lv_iload_n hx hb dX10_arriveCall_10 rfl (lv_at hl 2 rfl) ?_
  obtain ⟨hi2, hw⟩ := hw
  refine w_ia (N := 2) hx hb hK hP (ch10_1 th10).2.1.1 (ch10_1 th10).2.1 (ch10_1 th10).2.2 hi2 dX10_arriveCall_11 ?_
  refine lv_topi (fun x11 ex11 => ?_)
  have hw := hw x11 ex11
  refine lv_if_ne (tgt := 87) hx hb dX10_arriveCall_12 (by decide) (fun c12 => ?_) (fun c12 => ?_)
  · have hw := hw.1 c12
    refine lv_aload_n hx hb dX10_arriveCall_87 rfl (lv_at hl 1 rfl) ?_
    refine w_gR (C := RX10) (T := TX10) (N := 64) (ci := 10) hx hb hts in10 hown hK hP 1 th10.1 th10 rfl (by decide) (ch10_1 th10).1 (hts _ mf_X10_7) dX10_arriveCall_88 ?_
    refine lv_iload_n hx hb dX10_arriveCall_91 rfl (lv_at hl 2 rfl) ?_
    obtain ⟨hi3, hw⟩ := hw
    refine w_ia (N := 2) hx hb hK hP (ch10_1 th10).2.1.1 (ch10_1 th10).2.1 (ch10_1 th10).2.2 hi3 dX10_arriveCall_92 ?_
    refine lv_topi (fun x92 ex92 => ?_)
    have hw := hw x92 ex92
    refine lv_iconst (v := 2) hx hb dX10_arriveCall_93 (by decide) ?_
    refine lv_icmp_ne (tgt := 116) hx hb dX10_arriveCall_94 (by decide) (fun c94 => ?_) (fun c94 => ?_)
    · have hw := hw.1 c94
      exact tb_X10_arriveCall_116 hx hb hml hown hts hK p1 _ hret  p1 x2 v1 _ _ _ hw (lv_sub hl [1, 2, 0] rfl) hP hS
    · have hw := hw.2 c94
      refine lv_aload_n hx hb dX10_arriveCall_97 rfl (lv_at hl 1 rfl) ?_
      refine w_gR (C := RX10) (T := TX10) (N := 64) (ci := 10) hx hb hts in10 hown hK hP 4 th10.1 th10 rfl (by decide) (ch10_4 th10).1 (hts _ mf_X10_19) dX10_arriveCall_98 ?_
      refine lv_iload_n hx hb dX10_arriveCall_101 rfl (lv_at hl 2 rfl) ?_
      obtain ⟨hi4, hw⟩ := hw
      refine w_za (N := 2) hx hb hK hP (ch10_4 th10).2.1.1 (ch10_4 th10).2.1 (ch10_4 th10).2.2 hi4 dX10_arriveCall_102 ?_
      refine lv_topi (fun x102 ex102 => ?_)
      have hw := hw x102 ex102
      refine lv_if_eq (tgt := 116) hx hb dX10_arriveCall_103 (by decide) (fun c103 => ?_) (fun c103 => ?_)
      · have hw := hw.1 c103
        exact tb_X10_arriveCall_116 hx hb hml hown hts hK p1 _ hret  p1 x2 v1 _ _ _ hw (lv_sub hl [1, 2, 0] rfl) hP hS
      · have hw := hw.2 c103
        refine lv_aload_n hx hb dX10_arriveCall_106 rfl (lv_at hl 1 rfl) ?_
        refine w_gR (C := RX10) (T := TX10) (N := 64) (ci := 10) hx hb hts in10 hown hK hP 3 th10.1 th10 rfl (by decide) (ch10_3 th10).1 (hts _ mf_X10_16) dX10_arriveCall_107 ?_
        refine lv_iload_n hx hb dX10_arriveCall_110 rfl (lv_at hl 2 rfl) ?_
        obtain ⟨hi5, hw⟩ := hw
        refine w_ia (N := 2) hx hb hK hP (ch10_3 th10).2.1.1 (ch10_3 th10).2.1 (ch10_3 th10).2.2 hi5 dX10_arriveCall_111 ?_
        refine lv_topi (fun x111 ex111 => ?_)
        have hw := hw x111 ex111
        refine lv_iload_n hx hb dX10_arriveCall_112 rfl (lv_at hl 0 rfl) ?_
        refine lv_icmp_eq (tgt := 127) hx hb dX10_arriveCall_113 (by decide) (fun c113 => ?_) (fun c113 => ?_)
        · have hw := hw.1 c113
          exact hret _ _ _ _ _ dX10_arriveCall_127 hw hP hS
        · have hw := hw.2 c113
          exact tb_X10_arriveCall_116 hx hb hml hown hts hK p1 _ hret  p1 x2 v1 _ _ _ hw (lv_sub hl [1, 2, 0] rfl) hP hS
  · have hw := hw.2 c12
    refine lv_aload_n hx hb dX10_arriveCall_15 rfl (lv_at hl 1 rfl) ?_
    refine lv_iload_n hx hb dX10_arriveCall_16 rfl (lv_at hl 2 rfl) ?_
    refine k_V (As := [.int p1]) (rest := []) ⟨hx, hb, hml, hown, hts⟩ (t_X10_fresh l dC dI base cy p1 v1 _ hw) (cwV 1 hts (gV ml_X10_235 mi_X10_fresh mx_X10_fresh mn_X10 mo_X10_fresh) rfl rfl rfl (by decide +kernel) ⟨by decide, by decide⟩) hK hP hS th10 (by decide) rfl rfl hl.1 rfl (Nat.le_of_ble_eq_true rfl) dX10_arriveCall_17 ⟨Nat.zero_le _, Nat.zero_le _⟩ (fun v6 H locs hw hP hS => ?_)
    refine lv_aload_n hx hb dX10_arriveCall_20 rfl (lv_at hl 1 rfl) ?_
    refine w_gR (C := RX10) (T := TX10) (N := 64) (ci := 10) hx hb hts in10 hown hK hP 1 th10.1 th10 rfl (by decide) (ch10_1 th10).1 (hts _ mf_X10_7) dX10_arriveCall_21 ?_
    refine lv_iload_n hx hb dX10_arriveCall_24 rfl (lv_at hl 2 rfl) ?_
    refine lv_iconst (v := 2) hx hb dX10_arriveCall_25 (by decide) ?_
    obtain ⟨hi8, hw⟩ := hw
    refine w_is (N := 2) hx hb hK hP hS (ch10_1 th10).2.1.1 (ch10_1 th10).2.1 (ch10_1 th10).2.2 hi8 dX10_arriveCall_26 (fun v7 H locs hv7 hP hz hS => ?_)
    have hw := hw v7 hv7
    refine lv_aload_n hx hb dX10_arriveCall_27 rfl (lv_at hl 1 rfl) ?_
    refine w_gR (C := RX10) (T := TX10) (N := 64) (ci := 10) hx hb hts in10 hown hK hP 4 th10.1 th10 rfl (by decide) (ch10_4 th10).1 (hts _ mf_X10_19) dX10_arriveCall_28 ?_
    refine lv_iload_n hx hb dX10_arriveCall_31 rfl (lv_at hl 2 rfl) ?_
    refine lv_iconst (v := 1) hx hb dX10_arriveCall_32 (by decide) ?_
    obtain ⟨hi10, hw⟩ := hw
    refine w_zs (N := 2) hx hb hK hP hS (ch10_4 th10).2.1.1 (ch10_4 th10).2.1 (ch10_4 th10).2.2 hi10 dX10_arriveCall_33 (fun v9 H locs hv9 hP hz hS => ?_)
    have hw := hw v9 hv9
    refine lv_aload_n hx hb dX10_arriveCall_34 rfl (lv_at hl 1 rfl) ?_
    refine w_gR (C := RX10) (T := TX10) (N := 64) (ci := 10) hx hb hts in10 hown hK hP 3 th10.1 th10 rfl (by decide) (ch10_3 th10).1 (hts _ mf_X10_16) dX10_arriveCall_35 ?_
    refine lv_iload_n hx hb dX10_arriveCall_38 rfl (lv_at hl 2 rfl) ?_
    refine lv_iload_n hx hb dX10_arriveCall_39 rfl (lv_at hl 0 rfl) ?_
    obtain ⟨hi12, hw⟩ := hw
    refine w_is (N := 2) hx hb hK hP hS (ch10_3 th10).2.1.1 (ch10_3 th10).2.1 (ch10_3 th10).2.2 hi12 dX10_arriveCall_40 (fun v11 H locs hv11 hP hz hS => ?_)
    have hw := hw v11 hv11
    refine lv_aload_n hx hb dX10_arriveCall_41 rfl (lv_at hl 1 rfl) ?_
    refine w_gR (C := RX10) (T := TX10) (N := 64) (ci := 10) hx hb hts in10 hown hK hP 24 th10.1 th10 rfl (by decide) (ch10_24 th10).1 (hts _ mf_X10_80) dX10_arriveCall_42 ?_
    refine lv_iload_n hx hb dX10_arriveCall_45 rfl (lv_at hl 2 rfl) ?_
    refine lv_aload_n hx hb dX10_arriveCall_46 rfl (lv_at hl 1 rfl) ?_
    refine w_gR (C := RX10) (T := TX10) (N := 64) (ci := 10) hx hb hts in10 hown hK hP 60 th10.1 th10 rfl (by decide) (ch10_60 th10).1 (hts _ mf_X10_177) dX10_arriveCall_47 ?_
    refine lv_iconst (v := 1) hx hb dX10_arriveCall_50 (by decide) ?_
    refine w_ia (N := 20) hx hb hK hP (ch10_60 th10).2.1.1 (ch10_60 th10).2.1 (ch10_60 th10).2.2 (vp_in_nI (n := 1) (by decide) (by decide)) dX10_arriveCall_51 ?_
    refine lv_topi (fun x51 ex51 => ?_)
    have hw := hw x51 ex51
    refine lv_bipush (v := 15) hx hb dX10_arriveCall_52 (by decide) ?_
    refine lv_iand hx hb dX10_arriveCall_54 ?_
    refine lv_topi (fun x54 ex54 => ?_)
    have hw := hw x54 ex54
    obtain ⟨hi14, hw⟩ := hw
    refine w_is (N := 2) hx hb hK hP hS (ch10_24 th10).2.1.1 (ch10_24 th10).2.1 (ch10_24 th10).2.2 hi14 dX10_arriveCall_55 (fun v13 H locs hv13 hP hz hS => ?_)
    have hw := hw v13 hv13
    refine lv_aload_n hx hb dX10_arriveCall_56 rfl (lv_at hl 1 rfl) ?_
    refine lv_iload_n hx hb dX10_arriveCall_57 rfl (lv_at hl 2 rfl) ?_
    refine lv_sipush (v := 208) hx hb dX10_arriveCall_58 (by decide) ?_
    refine lv_aload_n hx hb dX10_arriveCall_61 rfl (lv_at hl 1 rfl) ?_
    refine lv_iload_n hx hb dX10_arriveCall_62 rfl (lv_at hl 2 rfl) ?_
    refine k_I (As := [.int p1]) (rest := [.int 208, .int p1, .ref (base + 816)]) ⟨hx, hb, hml, hown, hts⟩ (t_X10_credit l dC dI base cy p1 v13 _ hw) (cwV 1 hts (gV ml_X10_214 mi_X10_credit mx_X10_credit mn_X10 mo_X10_credit) rfl rfl rfl (by decide +kernel) ⟨by decide, by decide⟩) hK hP hS th10 (by decide) rfl rfl hl.1 rfl (Nat.le_of_ble_eq_true rfl) dX10_arriveCall_63 ⟨Nat.zero_le _, Nat.zero_le _⟩ (fun x63 v15 H locs hw hP hS => ?_)
    refine lv_iadd hx hb dX10_arriveCall_66 ?_
    refine lv_topi (fun x66 ex66 => ?_)
    have hw := hw x66 ex66
    refine lv_iload_n hx hb dX10_arriveCall_67 rfl (lv_at hl 0 rfl) ?_
    refine lv_aload_n hx hb dX10_arriveCall_68 rfl (lv_at hl 1 rfl) ?_
    refine w_gR (C := RX10) (T := TX10) (N := 64) (ci := 10) hx hb hts in10 hown hK hP 2 th10.1 th10 rfl (by decide) (ch10_2 th10).1 (hts _ mf_X10_13) dX10_arriveCall_69 ?_
    refine lv_iload_n hx hb dX10_arriveCall_72 rfl (lv_at hl 2 rfl) ?_
    obtain ⟨hi16, hw⟩ := hw
    refine w_ia (N := 2) hx hb hK hP (ch10_2 th10).2.1.1 (ch10_2 th10).2.1 (ch10_2 th10).2.2 hi16 dX10_arriveCall_73 ?_
    refine lv_topi (fun x73 ex73 => ?_)
    have hw := hw x73 ex73
    refine lv_bipush (v := 64) hx hb dX10_arriveCall_74 (by decide) ?_
    refine k_V (As := [.int p1, .int x66, .int x2, .int x73, .int 64]) (rest := []) ⟨hx, hb, hml, hown, hts⟩ (t_X10_sendCode l dC dI base cy p1 x66 x2 x73 64 v15 _ hw) (cwV 5 hts (gV ml_X10_238 mi_X10_sendCode mx_X10_sendCode mn_X10 mo_X10_sendCode) rfl rfl rfl (by decide +kernel) ⟨by decide, by decide⟩) hK hP hS th10 (by decide) rfl rfl hl.1 rfl (Nat.le_of_ble_eq_true rfl) dX10_arriveCall_76 ⟨Nat.zero_le _, Nat.zero_le _⟩ (fun v17 H locs hw hP hS => ?_)
    refine lv_aload_n hx hb dX10_arriveCall_79 rfl (lv_at hl 1 rfl) ?_
    refine lv_iload_n hx hb dX10_arriveCall_80 rfl (lv_at hl 2 rfl) ?_
    refine k_V (As := [.int p1]) (rest := []) ⟨hx, hb, hml, hown, hts⟩ (t_X10_wait l dC dI base cy p1 v17 _ hw) (cwV 1 hts (gV ml_X10_242 mi_X10_wait mx_X10_wait mn_X10 mo_X10_wait) rfl rfl rfl (by decide +kernel) ⟨by decide, by decide⟩) hK hP hS th10 (by decide) rfl rfl hl.1 rfl (Nat.le_of_ble_eq_true rfl) dX10_arriveCall_81 ⟨Nat.zero_le _, Nat.zero_le _⟩ (fun v18 H locs hw hP hS => ?_)
    refine lv_goto (tgt := 127) hx hb dX10_arriveCall_84 (by decide) ?_
    exact hret _ _ _ _ _ dX10_arriveCall_127 hw hP hS
def w_X10_arriveAnswer (p1 : Int32) (v : VV) (Q : VV → Prop) : Prop :=
  w_X10_two 4 v (fun (x2 : Int32) (v1 : VV) => vp_in p1 2 ∧ ∀ x11 : Int32, x11 = v1 817 (Int32.toNatClampNeg p1) → (¬ x11 = 1 → vp_in p1 2 ∧ ∀ x77 : Int32, x77 = v1 817 (Int32.toNatClampNeg p1) → (¬ x77 = 2 → Q v1) ∧ (x77 = 2 → vp_in p1 2 ∧ ∀ x87 : Int32, x87 = v1 819 (Int32.toNatClampNeg p1) → (¬ x87 = x2 → Q v1) ∧ (x87 = x2 → w_X10_sendReceipt p1 v1 (fun (v5 : VV) => Q v5)))) ∧ (x11 = 1 → vp_in p1 2 ∧ ∀ v6 : VV, v6 = up2 v1 817 (Int32.toNatClampNeg p1) 2 → vp_in p1 2 ∧ ∀ v8 : VV, v8 = up2 v6 819 (Int32.toNatClampNeg p1) x2 → vp_in p1 2 ∧ ∀ v10 : VV, v10 = up2 v8 839 (Int32.toNatClampNeg p1) 0 → ∀ x47 : Int32, x47 = v10 872 (Int32.toNatClampNeg 1) → ∀ x50 : Int32, x50 = x47 &&& 15 → vp_in p1 2 ∧ ∀ v12 : VV, v12 = up2 v10 840 (Int32.toNatClampNeg p1) x50 → vp_in p1 2 ∧ ∀ v14 : VV, v14 = up2 v12 825 (Int32.toNatClampNeg p1) 0 → w_X10_sendReceipt p1 v14 (fun (v16 : VV) => w_X10_goOn p1 v16 (fun (v17 : VV) => Q v17))))
set_option maxHeartbeats 4000000 in
set_option maxRecDepth 100000 in
/-- TransportFourModel.arriveAnswer -/
theorem t_X10_arriveAnswer (l : Launch) (dC : Nat → ClassId) (dI : Nat → Nat → Nat) (base : Nat) (cy : Nat → ClassId) (p1 : Int32) (v : VV) (Q : VV → Prop) (hw : w_X10_arriveAnswer p1 v Q) : CV l yX10_arriveAnswer (.code yX10_arriveAnswer cX10_arriveAnswer 3 none :: TB) { frames := 4, cells := 0, slots := 0, locals := 90 } dC dI base cy [.ref (base + 816), .int p1] v Q := by
  refine Met.ofW (cc := cX10_arriveAnswer) (maxL := 3) (ret := none) (by decide) rfl ?_
  intro p e s m args below meth c s₁ B hml hv
  obtain ⟨rfl, hP, hK⟩ := hv
  have hx := B.exec
  have hb := B.bytes
  have hr := B.returns
  have hts0 := atoms_spec (ws := (.code yX10_arriveAnswer cX10_arriveAnswer 3 none :: TB)) B.pre
  have hts : ∀ w ∈ TB, w.before ([.ref (base + 816), .int p1]).toArray s = true := fun w h => hts0 w (List.mem_cons_of_mem _ h)
  have hown : s.vm.findClass RX10 = some m.cls := findClass_of_methodNamed B.named
  have hlocks := B.notSynchronized
  have hS : va_S (fun q => base ≤ q) s.heap s.heap [] := va_S.rf
  have hl := lv_entry ([.ref (base + 816), .int p1]) (n := 3) (Nat.le_of_ble_eq_true rfl)
  rw [lg_entry_eq]
  generalize (lg_sl ([.ref (base + 816), .int p1]) ++ List.replicate (3 - (lg_sl ([.ref (base + 816), .int p1])).length) Slot.unset).toArray = ls at hl ⊢
  have hl : lv_has ls 3 [(0, .ref (base + 816)), (1, .int p1)] := hl
  have hret : ∀ (pc : Nat) (v : VV) (H : Heap) (locs : List Loc) (ls : Array Slot), decode cX10_arriveAnswer pc = .ok (.return_, 1) → Q v → va_P (dC, dI) vwCl (Wd base cy rf v 874) H → va_S (fun q => base ≤ q) s.heap H locs → W p l e { frames := 4, cells := 0, slots := 0, locals := 90 } s m ([.ref (base + 816), .int p1]).toArray below meth c H locs 0 0 (MQ below (va_Qv Q (Hp dC dI base cy) (fun q => base ≤ q)) ([.ref (base + 816), .int p1]).toArray s 0 0 (fun q => base ≤ q)) (F0 m pc ls []) := fun pc v H locs ls hd hq hP hS => W.vret hx hb hr (fun t ht hW => ⟨⟨v, rfl, hq, by rw [ht]; exact hP, va_K.moved hW.alike hK⟩, hS.F ht⟩) hS.2.2 hd
  refine lv_aload_n hx hb dX10_arriveAnswer_0 rfl (lv_at hl 0 rfl) ?_
  refine lv_iconst (v := 4) hx hb dX10_arriveAnswer_1 (by decide) ?_
  refine k_I (As := [.int 4]) (rest := []) ⟨hx, hb, hml, hown, hts⟩ (t_X10_two l dC dI base cy 4 v _ hw) (cwV 1 hts (gV ml_X10_268 mi_X10_two mx_X10_two mn_X10 mo_X10_two) rfl rfl rfl (by decide +kernel) ⟨by decide, by decide⟩) hK hP hS th10 (by decide) rfl rfl hl.1 rfl (Nat.le_of_ble_eq_true rfl) dX10_arriveAnswer_2 ⟨Nat.zero_le _, Nat.zero_le _⟩ (fun x2 v1 H locs hw hP hS => ?_)
  refine lv_istore_n (lv' := [(2, .int x2), (0, .ref (base + 816)), (1, .int p1)]) hx hb dX10_arriveAnswer_5 rfl hl (by decide) rfl (fun ls hl => ?_)
  refine lv_aload_n hx hb dX10_arriveAnswer_6 rfl (lv_at hl 1 rfl) ?_
  refine w_gR (C := RX10) (T := TX10) (N := 64) (ci := 10) hx hb hts in10 hown hK hP 1 th10.1 th10 rfl (by decide) (ch10_1 th10).1 (hts _ mf_X10_7) dX10_arriveAnswer_7 ?_
  refine lv_iload_n hx hb dX10_arriveAnswer_10 rfl (lv_at hl 2 rfl) ?_
  obtain ⟨hi2, hw⟩ := hw
  refine w_ia (N := 2) hx hb hK hP (ch10_1 th10).2.1.1 (ch10_1 th10).2.1 (ch10_1 th10).2.2 hi2 dX10_arriveAnswer_11 ?_
  refine lv_topi (fun x11 ex11 => ?_)
  have hw := hw x11 ex11
  refine lv_iconst (v := 1) hx hb dX10_arriveAnswer_12 (by decide) ?_
  refine lv_icmp_ne (tgt := 72) hx hb dX10_arriveAnswer_13 (by decide) (fun c13 => ?_) (fun c13 => ?_)
  · have hw := hw.1 c13
    refine lv_aload_n hx hb dX10_arriveAnswer_72 rfl (lv_at hl 1 rfl) ?_
    refine w_gR (C := RX10) (T := TX10) (N := 64) (ci := 10) hx hb hts in10 hown hK hP 1 th10.1 th10 rfl (by decide) (ch10_1 th10).1 (hts _ mf_X10_7) dX10_arriveAnswer_73 ?_
    refine lv_iload_n hx hb dX10_arriveAnswer_76 rfl (lv_at hl 2 rfl) ?_
    obtain ⟨hi3, hw⟩ := hw
    refine w_ia (N := 2) hx hb hK hP (ch10_1 th10).2.1.1 (ch10_1 th10).2.1 (ch10_1 th10).2.2 hi3 dX10_arriveAnswer_77 ?_
    refine lv_topi (fun x77 ex77 => ?_)
    have hw := hw x77 ex77
    refine lv_iconst (v := 2) hx hb dX10_arriveAnswer_78 (by decide) ?_
    refine lv_icmp_ne (tgt := 97) hx hb dX10_arriveAnswer_79 (by decide) (fun c79 => ?_) (fun c79 => ?_)
    · have hw := hw.1 c79
      exact hret _ _ _ _ _ dX10_arriveAnswer_97 hw hP hS
    · have hw := hw.2 c79
      refine lv_aload_n hx hb dX10_arriveAnswer_82 rfl (lv_at hl 1 rfl) ?_
      refine w_gR (C := RX10) (T := TX10) (N := 64) (ci := 10) hx hb hts in10 hown hK hP 3 th10.1 th10 rfl (by decide) (ch10_3 th10).1 (hts _ mf_X10_16) dX10_arriveAnswer_83 ?_
      refine lv_iload_n hx hb dX10_arriveAnswer_86 rfl (lv_at hl 2 rfl) ?_
      obtain ⟨hi4, hw⟩ := hw
      refine w_ia (N := 2) hx hb hK hP (ch10_3 th10).2.1.1 (ch10_3 th10).2.1 (ch10_3 th10).2.2 hi4 dX10_arriveAnswer_87 ?_
      refine lv_topi (fun x87 ex87 => ?_)
      have hw := hw x87 ex87
      refine lv_iload_n hx hb dX10_arriveAnswer_88 rfl (lv_at hl 0 rfl) ?_
      refine lv_icmp_ne (tgt := 97) hx hb dX10_arriveAnswer_89 (by decide) (fun c89 => ?_) (fun c89 => ?_)
      · have hw := hw.1 c89
        exact hret _ _ _ _ _ dX10_arriveAnswer_97 hw hP hS
      · have hw := hw.2 c89
        refine lv_aload_n hx hb dX10_arriveAnswer_92 rfl (lv_at hl 1 rfl) ?_
        refine lv_iload_n hx hb dX10_arriveAnswer_93 rfl (lv_at hl 2 rfl) ?_
        refine k_V (As := [.int p1]) (rest := []) ⟨hx, hb, hml, hown, hts⟩ (t_X10_sendReceipt l dC dI base cy p1 v1 _ hw) (cwV 1 hts (gV ml_X10_271 mi_X10_sendReceipt mx_X10_sendReceipt mn_X10 mo_X10_sendReceipt) rfl rfl rfl (by decide +kernel) ⟨by decide, by decide⟩) hK hP hS th10 (by decide) rfl rfl hl.1 rfl (Nat.le_of_ble_eq_true rfl) dX10_arriveAnswer_94 ⟨Nat.zero_le _, Nat.zero_le _⟩ (fun v5 H locs hw hP hS => ?_)
        exact hret _ _ _ _ _ dX10_arriveAnswer_97 hw hP hS
  · have hw := hw.2 c13
    refine lv_aload_n hx hb dX10_arriveAnswer_16 rfl (lv_at hl 1 rfl) ?_
    refine w_gR (C := RX10) (T := TX10) (N := 64) (ci := 10) hx hb hts in10 hown hK hP 1 th10.1 th10 rfl (by decide) (ch10_1 th10).1 (hts _ mf_X10_7) dX10_arriveAnswer_17 ?_
    refine lv_iload_n hx hb dX10_arriveAnswer_20 rfl (lv_at hl 2 rfl) ?_
    refine lv_iconst (v := 2) hx hb dX10_arriveAnswer_21 (by decide) ?_
    obtain ⟨hi7, hw⟩ := hw
    refine w_is (N := 2) hx hb hK hP hS (ch10_1 th10).2.1.1 (ch10_1 th10).2.1 (ch10_1 th10).2.2 hi7 dX10_arriveAnswer_22 (fun v6 H locs hv6 hP hz hS => ?_)
    have hw := hw v6 hv6
    refine lv_aload_n hx hb dX10_arriveAnswer_23 rfl (lv_at hl 1 rfl) ?_
    refine w_gR (C := RX10) (T := TX10) (N := 64) (ci := 10) hx hb hts in10 hown hK hP 3 th10.1 th10 rfl (by decide) (ch10_3 th10).1 (hts _ mf_X10_16) dX10_arriveAnswer_24 ?_
    refine lv_iload_n hx hb dX10_arriveAnswer_27 rfl (lv_at hl 2 rfl) ?_
    refine lv_iload_n hx hb dX10_arriveAnswer_28 rfl (lv_at hl 0 rfl) ?_
    obtain ⟨hi9, hw⟩ := hw
    refine w_is (N := 2) hx hb hK hP hS (ch10_3 th10).2.1.1 (ch10_3 th10).2.1 (ch10_3 th10).2.2 hi9 dX10_arriveAnswer_29 (fun v8 H locs hv8 hP hz hS => ?_)
    have hw := hw v8 hv8
    refine lv_aload_n hx hb dX10_arriveAnswer_30 rfl (lv_at hl 1 rfl) ?_
    refine w_gR (C := RX10) (T := TX10) (N := 64) (ci := 10) hx hb hts in10 hown hK hP 23 th10.1 th10 rfl (by decide) (ch10_23 th10).1 (hts _ mf_X10_77) dX10_arriveAnswer_31 ?_
    refine lv_iload_n hx hb dX10_arriveAnswer_34 rfl (lv_at hl 2 rfl) ?_
    refine lv_iconst (v := 0) hx hb dX10_arriveAnswer_35 (by decide) ?_
    obtain ⟨hi11, hw⟩ := hw
    refine w_is (N := 2) hx hb hK hP hS (ch10_23 th10).2.1.1 (ch10_23 th10).2.1 (ch10_23 th10).2.2 hi11 dX10_arriveAnswer_36 (fun v10 H locs hv10 hP hz hS => ?_)
    have hw := hw v10 hv10
    refine lv_aload_n hx hb dX10_arriveAnswer_37 rfl (lv_at hl 1 rfl) ?_
    refine w_gR (C := RX10) (T := TX10) (N := 64) (ci := 10) hx hb hts in10 hown hK hP 24 th10.1 th10 rfl (by decide) (ch10_24 th10).1 (hts _ mf_X10_80) dX10_arriveAnswer_38 ?_
    refine lv_iload_n hx hb dX10_arriveAnswer_41 rfl (lv_at hl 2 rfl) ?_
    refine lv_aload_n hx hb dX10_arriveAnswer_42 rfl (lv_at hl 1 rfl) ?_
    refine w_gR (C := RX10) (T := TX10) (N := 64) (ci := 10) hx hb hts in10 hown hK hP 60 th10.1 th10 rfl (by decide) (ch10_60 th10).1 (hts _ mf_X10_177) dX10_arriveAnswer_43 ?_
    refine lv_iconst (v := 1) hx hb dX10_arriveAnswer_46 (by decide) ?_
    refine w_ia (N := 20) hx hb hK hP (ch10_60 th10).2.1.1 (ch10_60 th10).2.1 (ch10_60 th10).2.2 (vp_in_nI (n := 1) (by decide) (by decide)) dX10_arriveAnswer_47 ?_
    refine lv_topi (fun x47 ex47 => ?_)
    have hw := hw x47 ex47
    refine lv_bipush (v := 15) hx hb dX10_arriveAnswer_48 (by decide) ?_
    refine lv_iand hx hb dX10_arriveAnswer_50 ?_
    refine lv_topi (fun x50 ex50 => ?_)
    have hw := hw x50 ex50
    obtain ⟨hi13, hw⟩ := hw
    refine w_is (N := 2) hx hb hK hP hS (ch10_24 th10).2.1.1 (ch10_24 th10).2.1 (ch10_24 th10).2.2 hi13 dX10_arriveAnswer_51 (fun v12 H locs hv12 hP hz hS => ?_)
    have hw := hw v12 hv12
    refine lv_aload_n hx hb dX10_arriveAnswer_52 rfl (lv_at hl 1 rfl) ?_
    refine w_gR (C := RX10) (T := TX10) (N := 64) (ci := 10) hx hb hts in10 hown hK hP 9 th10.1 th10 rfl (by decide) (ch10_9 th10).1 (hts _ mf_X10_35) dX10_arriveAnswer_53 ?_
    refine lv_iload_n hx hb dX10_arriveAnswer_56 rfl (lv_at hl 2 rfl) ?_
    refine lv_iconst (v := 0) hx hb dX10_arriveAnswer_57 (by decide) ?_
    obtain ⟨hi15, hw⟩ := hw
    refine w_is (N := 2) hx hb hK hP hS (ch10_9 th10).2.1.1 (ch10_9 th10).2.1 (ch10_9 th10).2.2 hi15 dX10_arriveAnswer_58 (fun v14 H locs hv14 hP hz hS => ?_)
    have hw := hw v14 hv14
    refine lv_aload_n hx hb dX10_arriveAnswer_59 rfl (lv_at hl 1 rfl) ?_
    refine lv_iload_n hx hb dX10_arriveAnswer_60 rfl (lv_at hl 2 rfl) ?_
    refine k_V (As := [.int p1]) (rest := []) ⟨hx, hb, hml, hown, hts⟩ (t_X10_sendReceipt l dC dI base cy p1 v14 _ hw) (cwV 1 hts (gV ml_X10_271 mi_X10_sendReceipt mx_X10_sendReceipt mn_X10 mo_X10_sendReceipt) rfl rfl rfl (by decide +kernel) ⟨by decide, by decide⟩) hK hP hS th10 (by decide) rfl rfl hl.1 rfl (Nat.le_of_ble_eq_true rfl) dX10_arriveAnswer_61 ⟨Nat.zero_le _, Nat.zero_le _⟩ (fun v16 H locs hw hP hS => ?_)
    refine lv_aload_n hx hb dX10_arriveAnswer_64 rfl (lv_at hl 1 rfl) ?_
    refine lv_iload_n hx hb dX10_arriveAnswer_65 rfl (lv_at hl 2 rfl) ?_
    refine k_V (As := [.int p1]) (rest := []) ⟨hx, hb, hml, hown, hts⟩ (t_X10_goOn l dC dI base cy p1 v16 _ hw) (cwV 1 hts (gV ml_X10_256 mi_X10_goOn mx_X10_goOn mn_X10 mo_X10_goOn) rfl rfl rfl (by decide +kernel) ⟨by decide, by decide⟩) hK hP hS th10 (by decide) rfl rfl hl.1 rfl (Nat.le_of_ble_eq_true rfl) dX10_arriveAnswer_66 ⟨Nat.zero_le _, Nat.zero_le _⟩ (fun v17 H locs hw hP hS => ?_)
    refine lv_goto (tgt := 97) hx hb dX10_arriveAnswer_69 (by decide) ?_
    exact hret _ _ _ _ _ dX10_arriveAnswer_97 hw hP hS
