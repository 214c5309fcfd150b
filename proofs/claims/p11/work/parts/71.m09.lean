def b_X10_arriveAll_112  (Q : VV → Prop) (fu : Nat) : Int32 → Int32 → VV → Prop :=
  Nat.rec (motive := fun _ => Int32 → Int32 → VV → Prop) (fun _ _ _ => False) (fun _ ih a1 a2 v => ∀ x113 : Int32, x113 = v 816 55 → (a1 ≤ x113 → Q v) ∧ (¬ a1 ≤ x113 → ∀ x125 : Int32, x125 = v 816 55 → ∀ x131 : Int32, x131 = x125 - x125 / 4096 * 4096 → vp_in x131 4096 ∧ ∀ x132 : Int32, x132 = v 871 (Int32.toNatClampNeg x131) → ∀ x135 : Int32, x135 = x132 + 8 → ∀ x137 : Int32, x137 = v 816 0 → (x137 < x135 → Q v) ∧ (¬ x137 < x135 → ∀ x145 : Int32, x145 = v 816 55 → ∀ x149 : Int32, x149 = x145 + 1 → ∀ v2 : VV, v2 = up2 v 816 55 x149 → ih a1 a2 v2))) fu
set_option maxHeartbeats 4000000 in
set_option maxRecDepth 100000 in
theorem tb_X10_arriveAll_112 {p : Program} {l : Launch} {e : Env} {s : State} {m : MethodId} {args : Array Value} {below : List Frame} {meth : Method} {c : Code} {QQ : State → Prop} {dC : Nat → ClassId} {dI : Nat → Nat → Nat} {base : Nat} {cy : Nat → ClassId} (hx : p.tables.exec = Jvm.exec) (hb : c.code = cX10_arriveAll) (hml : c.maxLocals = 6) (hown : s.vm.findClass RX10 = some m.cls) (hts : ∀ w ∈ TB, w.before args s = true) (hK : va_K (dC, dI) vwCl (tyL cy) s)  (Q : VV → Prop) (hret : ∀ (pc : Nat) (v : VV) (H : Heap) (locs : List Loc) (ls : Array Slot), decode cX10_arriveAll pc = .ok (.return_, 1) → Q v → va_P (dC, dI) vwCl (Wd base cy rf v 874) H → va_S (fun q => base ≤ q) s.heap H locs → W p l e { frames := 7, cells := 0, slots := 0, locals := 162 } s m args below meth c H locs 0 0 QQ (F0 m pc ls [])) : ∀ (fu : Nat) (a1 : Int32) (a2 : Int32) (v : VV) (H : Heap) (locs : List Loc) (ls : Array Slot), b_X10_arriveAll_112  Q  fu a1 a2 v → lv_has ls 6 [(0, .ref (base + 816)), (1, .int a1), (2, .int a2)] → va_P (dC, dI) vwCl (Wd base cy rf v 874) H → va_S (fun q => base ≤ q) s.heap H locs → W p l e { frames := 7, cells := 0, slots := 0, locals := 162 } s m args below meth c H locs 0 0 QQ (F0 m 112 ls []) := by
  intro fu
  induction fu with
  | zero =>
    intro a1 a2 v H locs ls hw hl hP hS
    exact hw.elim
  | succ fu ih =>
    intro a1 a2 v H locs ls hw hl hP hS
    refine lv_aload_n hx hb dX10_arriveAll_112 rfl (lv_at hl 0 rfl) ?_
    refine w_gI (C := RX10) (T := TX10) (N := 64) (ci := 10) hx hb hts in10 hown hK hP 55 th10.1 th10 rfl (by decide) (hts _ mf_X10_308) dX10_arriveAll_113 ?_
    refine lv_topi (fun x113 ex113 => ?_)
    have hw := hw x113 ex113
    refine lv_iload_n hx hb dX10_arriveAll_116 rfl (lv_at hl 1 rfl) ?_
    refine lv_icmp_ge (tgt := 156) hx hb dX10_arriveAll_117 (by decide) (fun c117 => ?_) (fun c117 => ?_)
    · have hw := hw.1 c117
      exact hret _ _ _ _ _ dX10_arriveAll_156 hw hP hS
    · have hw := hw.2 c117
      refine lv_aload_n hx hb dX10_arriveAll_120 rfl (lv_at hl 0 rfl) ?_
      refine w_gR (C := RX10) (T := TX10) (N := 64) (ci := 10) hx hb hts in10 hown hK hP 59 th10.1 th10 rfl (by decide) (ch10_59 th10).1 (hts _ mf_X10_174) dX10_arriveAll_121 ?_
      refine lv_aload_n hx hb dX10_arriveAll_124 rfl (lv_at hl 0 rfl) ?_
      refine w_gI (C := RX10) (T := TX10) (N := 64) (ci := 10) hx hb hts in10 hown hK hP 55 th10.1 th10 rfl (by decide) (hts _ mf_X10_308) dX10_arriveAll_125 ?_
      refine lv_topi (fun x125 ex125 => ?_)
      have hw := hw x125 ex125
      refine lv_sipush (v := 4096) hx hb dX10_arriveAll_128 (by decide) ?_
      refine lv_irem hx hb dX10_arriveAll_131 (by decide) ?_
      refine lv_topi (fun x131 ex131 => ?_)
      have hw := hw x131 ex131
      obtain ⟨hi1, hw⟩ := hw
      refine w_ia (N := 4096) hx hb hK hP (ch10_59 th10).2.1.1 (ch10_59 th10).2.1 (ch10_59 th10).2.2 hi1 dX10_arriveAll_132 ?_
      refine lv_topi (fun x132 ex132 => ?_)
      have hw := hw x132 ex132
      refine lv_bipush (v := 8) hx hb dX10_arriveAll_133 (by decide) ?_
      refine lv_iadd hx hb dX10_arriveAll_135 ?_
      refine lv_topi (fun x135 ex135 => ?_)
      have hw := hw x135 ex135
      refine lv_aload_n hx hb dX10_arriveAll_136 rfl (lv_at hl 0 rfl) ?_
      refine w_gI (C := RX10) (T := TX10) (N := 64) (ci := 10) hx hb hts in10 hown hK hP 0 th10.1 th10 rfl (by decide) (hts _ mf_X10_198) dX10_arriveAll_137 ?_
      refine lv_topi (fun x137 ex137 => ?_)
      have hw := hw x137 ex137
      refine lv_icmp_gt (tgt := 156) hx hb dX10_arriveAll_140 (by decide) (fun c140 => ?_) (fun c140 => ?_)
      · have hw := hw.1 c140
        exact hret _ _ _ _ _ dX10_arriveAll_156 hw hP hS
      · have hw := hw.2 c140
        refine lv_aload_n hx hb dX10_arriveAll_143 rfl (lv_at hl 0 rfl) ?_
        refine lv_dup hx hb dX10_arriveAll_144 rfl ?_
        refine w_gI (C := RX10) (T := TX10) (N := 64) (ci := 10) hx hb hts in10 hown hK hP 55 th10.1 th10 rfl (by decide) (hts _ mf_X10_308) dX10_arriveAll_145 ?_
        refine lv_topi (fun x145 ex145 => ?_)
        have hw := hw x145 ex145
        refine lv_iconst (v := 1) hx hb dX10_arriveAll_148 (by decide) ?_
        refine lv_iadd hx hb dX10_arriveAll_149 ?_
        refine lv_topi (fun x149 ex149 => ?_)
        have hw := hw x149 ex149
        refine w_pI (C := RX10) (T := TX10) (N := 64) (ci := 10) hx hb hts in10 tyX10 tyX10_ok nmX10 hown hK hP hS 55 th10.1 th10 rfl (by decide) (hts _ mf_X10_308) rfl (ty := .int) (by decide +kernel) rfl rfl dX10_arriveAll_150 (fun v2 H locs hv2 hP hz hS => ?_)
        have hw := hw v2 hv2
        refine lv_goto (tgt := 112) hx hb dX10_arriveAll_153 (by decide) ?_
        exact ih a1 a2 v2 _ _ _ hw (lv_sub hl [0, 1, 2] rfl) hP hS
def b_X10_arriveAll_100  (Q : VV → Prop) (K7 : Int32 → Int32 → VV → Prop) (K17 : Int32 → Int32 → Int32 → VV → Prop) (a1 : Int32) (a2 : Int32) (a3 : Int32) (a4 : Int32) (a5 : Int32) (v : VV) : Prop :=
  ∀ x100 : Int32, x100 = a3 + 1 → K17 a1 a2 x100 v
set_option maxHeartbeats 4000000 in
set_option maxRecDepth 100000 in
theorem tb_X10_arriveAll_100 {p : Program} {l : Launch} {e : Env} {s : State} {m : MethodId} {args : Array Value} {below : List Frame} {meth : Method} {c : Code} {QQ : State → Prop} {dC : Nat → ClassId} {dI : Nat → Nat → Nat} {base : Nat} {cy : Nat → ClassId} (hx : p.tables.exec = Jvm.exec) (hb : c.code = cX10_arriveAll) (hml : c.maxLocals = 6) (hown : s.vm.findClass RX10 = some m.cls) (hts : ∀ w ∈ TB, w.before args s = true) (hK : va_K (dC, dI) vwCl (tyL cy) s)  (Q : VV → Prop) (hret : ∀ (pc : Nat) (v : VV) (H : Heap) (locs : List Loc) (ls : Array Slot), decode cX10_arriveAll pc = .ok (.return_, 1) → Q v → va_P (dC, dI) vwCl (Wd base cy rf v 874) H → va_S (fun q => base ≤ q) s.heap H locs → W p l e { frames := 7, cells := 0, slots := 0, locals := 162 } s m args below meth c H locs 0 0 QQ (F0 m pc ls [])) (K7 : Int32 → Int32 → VV → Prop) (hK7 : ∀ (a1 : Int32) (a2 : Int32) (v : VV) (H : Heap) (locs : List Loc) (ls : Array Slot), K7 a1 a2 v → lv_has ls 6 [(0, .ref (base + 816)), (1, .int a1), (2, .int a2)] → va_P (dC, dI) vwCl (Wd base cy rf v 874) H → va_S (fun q => base ≤ q) s.heap H locs → W p l e { frames := 7, cells := 0, slots := 0, locals := 162 } s m args below meth c H locs 0 0 QQ (F0 m 7 ls [])) (K17 : Int32 → Int32 → Int32 → VV → Prop) (hK17 : ∀ (a1 : Int32) (a2 : Int32) (a3 : Int32) (v : VV) (H : Heap) (locs : List Loc) (ls : Array Slot), K17 a1 a2 a3 v → lv_has ls 6 [(0, .ref (base + 816)), (1, .int a1), (2, .int a2), (3, .int a3)] → va_P (dC, dI) vwCl (Wd base cy rf v 874) H → va_S (fun q => base ≤ q) s.heap H locs → W p l e { frames := 7, cells := 0, slots := 0, locals := 162 } s m args below meth c H locs 0 0 QQ (F0 m 17 ls [])) (a1 : Int32) (a2 : Int32) (a3 : Int32) (a4 : Int32) (a5 : Int32) (v : VV) (H : Heap) (locs : List Loc) (ls : Array Slot) (hw : b_X10_arriveAll_100  Q K7 K17 a1 a2 a3 a4 a5 v) : lv_has ls 6 [(0, .ref (base + 816)), (1, .int a1), (2, .int a2), (3, .int a3), (4, .int a4), (5, .int a5)] → va_P (dC, dI) vwCl (Wd base cy rf v 874) H → va_S (fun q => base ≤ q) s.heap H locs → W p l e { frames := 7, cells := 0, slots := 0, locals := 162 } s m args below meth c H locs 0 0 QQ (F0 m 100 ls []) := by
  intro hl hP hS
  obtain ⟨x100, ex100⟩ : ∃ y : Int32, y = a3 + 1 := ⟨_, rfl⟩
  have hw := hw x100 ex100
  refine lv_iinc (v := x100) (lv' := [(3, .int x100), (0, .ref (base + 816)), (1, .int a1), (2, .int a2), (4, .int a4), (5, .int a5)]) hx hb dX10_arriveAll_100 hl (k := 3) rfl (by rw [ex100]; first | rfl | (rw [show Int32.ofInt (-1) = (-1 : Int32) from by decide])) (by decide) rfl (fun ls hl => ?_)
  refine lv_goto (tgt := 17) hx hb dX10_arriveAll_103 (by decide) ?_
  exact hK17 a1 a2 x100 v _ _ _ hw (lv_sub hl [1, 2, 3, 0] rfl) hP hS
def b_X10_arriveAll_88  (Q : VV → Prop) (K7 : Int32 → Int32 → VV → Prop) (K17 : Int32 → Int32 → Int32 → VV → Prop) (a1 : Int32) (a2 : Int32) (a3 : Int32) (a4 : Int32) (s0 : Int32) (v : VV) : Prop :=
  (s0 = 0 → b_X10_arriveAll_100  Q K7 K17 a1 a2 a3 a4 s0 v) ∧ (¬ s0 = 0 → w_X10_carry a3 v (fun (v1 : VV) => b_X10_arriveAll_100  Q K7 K17 a1 a2 a3 a4 s0 v1))
set_option maxHeartbeats 4000000 in
set_option maxRecDepth 100000 in
theorem tb_X10_arriveAll_88 {p : Program} {l : Launch} {e : Env} {s : State} {m : MethodId} {args : Array Value} {below : List Frame} {meth : Method} {c : Code} {QQ : State → Prop} {dC : Nat → ClassId} {dI : Nat → Nat → Nat} {base : Nat} {cy : Nat → ClassId} (hx : p.tables.exec = Jvm.exec) (hb : c.code = cX10_arriveAll) (hml : c.maxLocals = 6) (hown : s.vm.findClass RX10 = some m.cls) (hts : ∀ w ∈ TB, w.before args s = true) (hK : va_K (dC, dI) vwCl (tyL cy) s)  (Q : VV → Prop) (hret : ∀ (pc : Nat) (v : VV) (H : Heap) (locs : List Loc) (ls : Array Slot), decode cX10_arriveAll pc = .ok (.return_, 1) → Q v → va_P (dC, dI) vwCl (Wd base cy rf v 874) H → va_S (fun q => base ≤ q) s.heap H locs → W p l e { frames := 7, cells := 0, slots := 0, locals := 162 } s m args below meth c H locs 0 0 QQ (F0 m pc ls [])) (K7 : Int32 → Int32 → VV → Prop) (hK7 : ∀ (a1 : Int32) (a2 : Int32) (v : VV) (H : Heap) (locs : List Loc) (ls : Array Slot), K7 a1 a2 v → lv_has ls 6 [(0, .ref (base + 816)), (1, .int a1), (2, .int a2)] → va_P (dC, dI) vwCl (Wd base cy rf v 874) H → va_S (fun q => base ≤ q) s.heap H locs → W p l e { frames := 7, cells := 0, slots := 0, locals := 162 } s m args below meth c H locs 0 0 QQ (F0 m 7 ls [])) (K17 : Int32 → Int32 → Int32 → VV → Prop) (hK17 : ∀ (a1 : Int32) (a2 : Int32) (a3 : Int32) (v : VV) (H : Heap) (locs : List Loc) (ls : Array Slot), K17 a1 a2 a3 v → lv_has ls 6 [(0, .ref (base + 816)), (1, .int a1), (2, .int a2), (3, .int a3)] → va_P (dC, dI) vwCl (Wd base cy rf v 874) H → va_S (fun q => base ≤ q) s.heap H locs → W p l e { frames := 7, cells := 0, slots := 0, locals := 162 } s m args below meth c H locs 0 0 QQ (F0 m 17 ls [])) (a1 : Int32) (a2 : Int32) (a3 : Int32) (a4 : Int32) (s0 : Int32) (v : VV) (H : Heap) (locs : List Loc) (ls : Array Slot) (hw : b_X10_arriveAll_88  Q K7 K17 a1 a2 a3 a4 s0 v) : lv_has ls 6 [(0, .ref (base + 816)), (1, .int a1), (2, .int a2), (3, .int a3), (4, .int a4)] → va_P (dC, dI) vwCl (Wd base cy rf v 874) H → va_S (fun q => base ≤ q) s.heap H locs → W p l e { frames := 7, cells := 0, slots := 0, locals := 162 } s m args below meth c H locs 0 0 QQ (F0 m 88 ls [.int s0]) := by
  intro hl hP hS
  refine lv_istore (lv' := [(5, .int s0), (0, .ref (base + 816)), (1, .int a1), (2, .int a2), (3, .int a3), (4, .int a4)]) hx hb dX10_arriveAll_88 hl (by decide) rfl (fun ls hl => ?_)
  refine lv_iload hx hb dX10_arriveAll_90 (lv_at hl 0 rfl) ?_
  refine lv_if_eq (tgt := 100) hx hb dX10_arriveAll_92 (by decide) (fun c92 => ?_) (fun c92 => ?_)
  · have hw := hw.1 c92
    exact tb_X10_arriveAll_100 hx hb hml hown hts hK  _ hret K7 hK7 K17 hK17 a1 a2 a3 a4 s0 v _ _ _ hw (lv_sub hl [1, 2, 3, 4, 5, 0] rfl) hP hS
  · have hw := hw.2 c92
    refine lv_aload_n hx hb dX10_arriveAll_95 rfl (lv_at hl 1 rfl) ?_
    refine lv_iload_n hx hb dX10_arriveAll_96 rfl (lv_at hl 4 rfl) ?_
    refine k_V (As := [.int a3]) (rest := []) ⟨hx, hb, hml, hown, hts⟩ (t_X10_carry l dC dI base cy a3 v _ hw) (cwV 1 hts (gV ml_X10_315 mi_X10_carry mx_X10_carry mn_X10 mo_X10_carry) rfl rfl rfl (by decide +kernel) ⟨by decide, by decide⟩) hK hP hS th10 (by decide) rfl rfl hl.1 rfl (Nat.le_of_ble_eq_true rfl) dX10_arriveAll_97 ⟨Nat.zero_le _, Nat.zero_le _⟩ (fun v1 H locs hw hP hS => ?_)
    exact tb_X10_arriveAll_100 hx hb hml hown hts hK  _ hret K7 hK7 K17 hK17 a1 a2 a3 a4 s0 v1 _ _ _ hw (lv_sub hl [1, 2, 3, 4, 5, 0] rfl) hP hS
def b_X10_arriveAll_87  (Q : VV → Prop) (K7 : Int32 → Int32 → VV → Prop) (K17 : Int32 → Int32 → Int32 → VV → Prop) (a1 : Int32) (a2 : Int32) (a3 : Int32) (a4 : Int32) (v : VV) : Prop :=
  b_X10_arriveAll_88  Q K7 K17 a1 a2 a3 a4 0 v
set_option maxHeartbeats 4000000 in
set_option maxRecDepth 100000 in
theorem tb_X10_arriveAll_87 {p : Program} {l : Launch} {e : Env} {s : State} {m : MethodId} {args : Array Value} {below : List Frame} {meth : Method} {c : Code} {QQ : State → Prop} {dC : Nat → ClassId} {dI : Nat → Nat → Nat} {base : Nat} {cy : Nat → ClassId} (hx : p.tables.exec = Jvm.exec) (hb : c.code = cX10_arriveAll) (hml : c.maxLocals = 6) (hown : s.vm.findClass RX10 = some m.cls) (hts : ∀ w ∈ TB, w.before args s = true) (hK : va_K (dC, dI) vwCl (tyL cy) s)  (Q : VV → Prop) (hret : ∀ (pc : Nat) (v : VV) (H : Heap) (locs : List Loc) (ls : Array Slot), decode cX10_arriveAll pc = .ok (.return_, 1) → Q v → va_P (dC, dI) vwCl (Wd base cy rf v 874) H → va_S (fun q => base ≤ q) s.heap H locs → W p l e { frames := 7, cells := 0, slots := 0, locals := 162 } s m args below meth c H locs 0 0 QQ (F0 m pc ls [])) (K7 : Int32 → Int32 → VV → Prop) (hK7 : ∀ (a1 : Int32) (a2 : Int32) (v : VV) (H : Heap) (locs : List Loc) (ls : Array Slot), K7 a1 a2 v → lv_has ls 6 [(0, .ref (base + 816)), (1, .int a1), (2, .int a2)] → va_P (dC, dI) vwCl (Wd base cy rf v 874) H → va_S (fun q => base ≤ q) s.heap H locs → W p l e { frames := 7, cells := 0, slots := 0, locals := 162 } s m args below meth c H locs 0 0 QQ (F0 m 7 ls [])) (K17 : Int32 → Int32 → Int32 → VV → Prop) (hK17 : ∀ (a1 : Int32) (a2 : Int32) (a3 : Int32) (v : VV) (H : Heap) (locs : List Loc) (ls : Array Slot), K17 a1 a2 a3 v → lv_has ls 6 [(0, .ref (base + 816)), (1, .int a1), (2, .int a2), (3, .int a3)] → va_P (dC, dI) vwCl (Wd base cy rf v 874) H → va_S (fun q => base ≤ q) s.heap H locs → W p l e { frames := 7, cells := 0, slots := 0, locals := 162 } s m args below meth c H locs 0 0 QQ (F0 m 17 ls [])) (a1 : Int32) (a2 : Int32) (a3 : Int32) (a4 : Int32) (v : VV) (H : Heap) (locs : List Loc) (ls : Array Slot) (hw : b_X10_arriveAll_87  Q K7 K17 a1 a2 a3 a4 v) : lv_has ls 6 [(0, .ref (base + 816)), (1, .int a1), (2, .int a2), (3, .int a3), (4, .int a4)] → va_P (dC, dI) vwCl (Wd base cy rf v 874) H → va_S (fun q => base ≤ q) s.heap H locs → W p l e { frames := 7, cells := 0, slots := 0, locals := 162 } s m args below meth c H locs 0 0 QQ (F0 m 87 ls []) := by
  intro hl hP hS
  refine lv_iconst (v := 0) hx hb dX10_arriveAll_87 (by decide) ?_
  exact tb_X10_arriveAll_88 hx hb hml hown hts hK  _ hret K7 hK7 K17 hK17 a1 a2 a3 a4 0 v _ _ _ hw (lv_sub hl [0, 1, 2, 3, 4] rfl) hP hS
def b_X10_arriveAll_83  (Q : VV → Prop) (K7 : Int32 → Int32 → VV → Prop) (K17 : Int32 → Int32 → Int32 → VV → Prop) (a1 : Int32) (a2 : Int32) (a3 : Int32) (a4 : Int32) (v : VV) : Prop :=
  b_X10_arriveAll_88  Q K7 K17 a1 a2 a3 a4 1 v
set_option maxHeartbeats 4000000 in
set_option maxRecDepth 100000 in
theorem tb_X10_arriveAll_83 {p : Program} {l : Launch} {e : Env} {s : State} {m : MethodId} {args : Array Value} {below : List Frame} {meth : Method} {c : Code} {QQ : State → Prop} {dC : Nat → ClassId} {dI : Nat → Nat → Nat} {base : Nat} {cy : Nat → ClassId} (hx : p.tables.exec = Jvm.exec) (hb : c.code = cX10_arriveAll) (hml : c.maxLocals = 6) (hown : s.vm.findClass RX10 = some m.cls) (hts : ∀ w ∈ TB, w.before args s = true) (hK : va_K (dC, dI) vwCl (tyL cy) s)  (Q : VV → Prop) (hret : ∀ (pc : Nat) (v : VV) (H : Heap) (locs : List Loc) (ls : Array Slot), decode cX10_arriveAll pc = .ok (.return_, 1) → Q v → va_P (dC, dI) vwCl (Wd base cy rf v 874) H → va_S (fun q => base ≤ q) s.heap H locs → W p l e { frames := 7, cells := 0, slots := 0, locals := 162 } s m args below meth c H locs 0 0 QQ (F0 m pc ls [])) (K7 : Int32 → Int32 → VV → Prop) (hK7 : ∀ (a1 : Int32) (a2 : Int32) (v : VV) (H : Heap) (locs : List Loc) (ls : Array Slot), K7 a1 a2 v → lv_has ls 6 [(0, .ref (base + 816)), (1, .int a1), (2, .int a2)] → va_P (dC, dI) vwCl (Wd base cy rf v 874) H → va_S (fun q => base ≤ q) s.heap H locs → W p l e { frames := 7, cells := 0, slots := 0, locals := 162 } s m args below meth c H locs 0 0 QQ (F0 m 7 ls [])) (K17 : Int32 → Int32 → Int32 → VV → Prop) (hK17 : ∀ (a1 : Int32) (a2 : Int32) (a3 : Int32) (v : VV) (H : Heap) (locs : List Loc) (ls : Array Slot), K17 a1 a2 a3 v → lv_has ls 6 [(0, .ref (base + 816)), (1, .int a1), (2, .int a2), (3, .int a3)] → va_P (dC, dI) vwCl (Wd base cy rf v 874) H → va_S (fun q => base ≤ q) s.heap H locs → W p l e { frames := 7, cells := 0, slots := 0, locals := 162 } s m args below meth c H locs 0 0 QQ (F0 m 17 ls [])) (a1 : Int32) (a2 : Int32) (a3 : Int32) (a4 : Int32) (v : VV) (H : Heap) (locs : List Loc) (ls : Array Slot) (hw : b_X10_arriveAll_83  Q K7 K17 a1 a2 a3 a4 v) : lv_has ls 6 [(0, .ref (base + 816)), (1, .int a1), (2, .int a2), (3, .int a3), (4, .int a4)] → va_P (dC, dI) vwCl (Wd base cy rf v 874) H → va_S (fun q => base ≤ q) s.heap H locs → W p l e { frames := 7, cells := 0, slots := 0, locals := 162 } s m args below meth c H locs 0 0 QQ (F0 m 83 ls []) := by
  intro hl hP hS
  refine lv_iconst (v := 1) hx hb dX10_arriveAll_83 (by decide) ?_
  refine lv_goto (tgt := 88) hx hb dX10_arriveAll_84 (by decide) ?_
  exact tb_X10_arriveAll_88 hx hb hml hown hts hK  _ hret K7 hK7 K17 hK17 a1 a2 a3 a4 1 v _ _ _ hw (lv_sub hl [0, 1, 2, 3, 4] rfl) hP hS
def b_X10_arriveAll_37  (Q : VV → Prop) (K7 : Int32 → Int32 → VV → Prop) (K17 : Int32 → Int32 → Int32 → VV → Prop) (a1 : Int32) (a2 : Int32) (a3 : Int32) (s0 : Int32) (v : VV) : Prop :=
  ∀ x47 : Int32, x47 = a3 - a3 / 4096 * 4096 → vp_in x47 4096 ∧ ∀ x48 : Int32, x48 = v 871 (Int32.toNatClampNeg x47) → ∀ x51 : Int32, x51 = x48 + s0 → ∀ x53 : Int32, x53 = x51 + a2 → ∀ x55 : Int32, x55 = v 816 0 → (¬ x53 = x55 → b_X10_arriveAll_87  Q K7 K17 a1 a2 a3 s0 v) ∧ (x53 = x55 → w_X10_hasFault 1 a3 v (fun (x64 : Int32) (v2 : VV) => (¬ x64 = 0 → b_X10_arriveAll_87  Q K7 K17 a1 a2 a3 s0 v2) ∧ (x64 = 0 → (a2 = 0 → b_X10_arriveAll_83  Q K7 K17 a1 a2 a3 s0 v2) ∧ (¬ a2 = 0 → w_X10_hasFault 2 a3 v2 (fun (x77 : Int32) (v3 : VV) => (x77 = 0 → b_X10_arriveAll_87  Q K7 K17 a1 a2 a3 s0 v3) ∧ (¬ x77 = 0 → b_X10_arriveAll_83  Q K7 K17 a1 a2 a3 s0 v3))))))
set_option maxHeartbeats 4000000 in
set_option maxRecDepth 100000 in
theorem tb_X10_arriveAll_37 {p : Program} {l : Launch} {e : Env} {s : State} {m : MethodId} {args : Array Value} {below : List Frame} {meth : Method} {c : Code} {QQ : State → Prop} {dC : Nat → ClassId} {dI : Nat → Nat → Nat} {base : Nat} {cy : Nat → ClassId} (hx : p.tables.exec = Jvm.exec) (hb : c.code = cX10_arriveAll) (hml : c.maxLocals = 6) (hown : s.vm.findClass RX10 = some m.cls) (hts : ∀ w ∈ TB, w.before args s = true) (hK : va_K (dC, dI) vwCl (tyL cy) s)  (Q : VV → Prop) (hret : ∀ (pc : Nat) (v : VV) (H : Heap) (locs : List Loc) (ls : Array Slot), decode cX10_arriveAll pc = .ok (.return_, 1) → Q v → va_P (dC, dI) vwCl (Wd base cy rf v 874) H → va_S (fun q => base ≤ q) s.heap H locs → W p l e { frames := 7, cells := 0, slots := 0, locals := 162 } s m args below meth c H locs 0 0 QQ (F0 m pc ls [])) (K7 : Int32 → Int32 → VV → Prop) (hK7 : ∀ (a1 : Int32) (a2 : Int32) (v : VV) (H : Heap) (locs : List Loc) (ls : Array Slot), K7 a1 a2 v → lv_has ls 6 [(0, .ref (base + 816)), (1, .int a1), (2, .int a2)] → va_P (dC, dI) vwCl (Wd base cy rf v 874) H → va_S (fun q => base ≤ q) s.heap H locs → W p l e { frames := 7, cells := 0, slots := 0, locals := 162 } s m args below meth c H locs 0 0 QQ (F0 m 7 ls [])) (K17 : Int32 → Int32 → Int32 → VV → Prop) (hK17 : ∀ (a1 : Int32) (a2 : Int32) (a3 : Int32) (v : VV) (H : Heap) (locs : List Loc) (ls : Array Slot), K17 a1 a2 a3 v → lv_has ls 6 [(0, .ref (base + 816)), (1, .int a1), (2, .int a2), (3, .int a3)] → va_P (dC, dI) vwCl (Wd base cy rf v 874) H → va_S (fun q => base ≤ q) s.heap H locs → W p l e { frames := 7, cells := 0, slots := 0, locals := 162 } s m args below meth c H locs 0 0 QQ (F0 m 17 ls [])) (a1 : Int32) (a2 : Int32) (a3 : Int32) (s0 : Int32) (v : VV) (H : Heap) (locs : List Loc) (ls : Array Slot) (hw : b_X10_arriveAll_37  Q K7 K17 a1 a2 a3 s0 v) : lv_has ls 6 [(0, .ref (base + 816)), (1, .int a1), (2, .int a2), (3, .int a3)] → va_P (dC, dI) vwCl (Wd base cy rf v 874) H → va_S (fun q => base ≤ q) s.heap H locs → W p l e { frames := 7, cells := 0, slots := 0, locals := 162 } s m args below meth c H locs 0 0 QQ (F0 m 37 ls [.int s0]) := by
  intro hl hP hS
  refine lv_istore (lv' := [(4, .int s0), (0, .ref (base + 816)), (1, .int a1), (2, .int a2), (3, .int a3)]) hx hb dX10_arriveAll_37 hl (by decide) rfl (fun ls hl => ?_)
  refine lv_aload_n hx hb dX10_arriveAll_39 rfl (lv_at hl 1 rfl) ?_
  refine w_gR (C := RX10) (T := TX10) (N := 64) (ci := 10) hx hb hts in10 hown hK hP 59 th10.1 th10 rfl (by decide) (ch10_59 th10).1 (hts _ mf_X10_174) dX10_arriveAll_40 ?_
  refine lv_iload_n hx hb dX10_arriveAll_43 rfl (lv_at hl 4 rfl) ?_
  refine lv_sipush (v := 4096) hx hb dX10_arriveAll_44 (by decide) ?_
  refine lv_irem hx hb dX10_arriveAll_47 (by decide) ?_
  refine lv_topi (fun x47 ex47 => ?_)
  have hw := hw x47 ex47
  obtain ⟨hi1, hw⟩ := hw
  refine w_ia (N := 4096) hx hb hK hP (ch10_59 th10).2.1.1 (ch10_59 th10).2.1 (ch10_59 th10).2.2 hi1 dX10_arriveAll_48 ?_
  refine lv_topi (fun x48 ex48 => ?_)
  have hw := hw x48 ex48
  refine lv_iload hx hb dX10_arriveAll_49 (lv_at hl 0 rfl) ?_
  refine lv_iadd hx hb dX10_arriveAll_51 ?_
  refine lv_topi (fun x51 ex51 => ?_)
  have hw := hw x51 ex51
  refine lv_iload_n hx hb dX10_arriveAll_52 rfl (lv_at hl 3 rfl) ?_
  refine lv_iadd hx hb dX10_arriveAll_53 ?_
  refine lv_topi (fun x53 ex53 => ?_)
  have hw := hw x53 ex53
  refine lv_aload_n hx hb dX10_arriveAll_54 rfl (lv_at hl 1 rfl) ?_
  refine w_gI (C := RX10) (T := TX10) (N := 64) (ci := 10) hx hb hts in10 hown hK hP 0 th10.1 th10 rfl (by decide) (hts _ mf_X10_198) dX10_arriveAll_55 ?_
  refine lv_topi (fun x55 ex55 => ?_)
  have hw := hw x55 ex55
  refine lv_icmp_ne (tgt := 87) hx hb dX10_arriveAll_58 (by decide) (fun c58 => ?_) (fun c58 => ?_)
  · have hw := hw.1 c58
    exact tb_X10_arriveAll_87 hx hb hml hown hts hK  _ hret K7 hK7 K17 hK17 a1 a2 a3 s0 v _ _ _ hw (lv_sub hl [1, 2, 3, 4, 0] rfl) hP hS
  · have hw := hw.2 c58
    refine lv_aload_n hx hb dX10_arriveAll_61 rfl (lv_at hl 1 rfl) ?_
    refine lv_iconst (v := 1) hx hb dX10_arriveAll_62 (by decide) ?_
    refine lv_iload_n hx hb dX10_arriveAll_63 rfl (lv_at hl 4 rfl) ?_
    refine k_I (As := [.int 1, .int a3]) (rest := []) ⟨hx, hb, hml, hown, hts⟩ (t_X10_hasFault l dC dI base cy 1 a3 v _ hw) (cwV 2 hts (gV ml_X10_311 mi_X10_hasFault mx_X10_hasFault mn_X10 mo_X10_hasFault) rfl rfl rfl (by decide +kernel) ⟨by decide, by decide⟩) hK hP hS th10 (by decide) rfl rfl hl.1 rfl (Nat.le_of_ble_eq_true rfl) dX10_arriveAll_64 ⟨Nat.zero_le _, Nat.zero_le _⟩ (fun x64 v2 H locs hw hP hS => ?_)
    refine lv_if_ne (tgt := 87) hx hb dX10_arriveAll_67 (by decide) (fun c67 => ?_) (fun c67 => ?_)
    · have hw := hw.1 c67
      exact tb_X10_arriveAll_87 hx hb hml hown hts hK  _ hret K7 hK7 K17 hK17 a1 a2 a3 s0 v2 _ _ _ hw (lv_sub hl [1, 2, 3, 4, 0] rfl) hP hS
    · have hw := hw.2 c67
      refine lv_iload_n hx hb dX10_arriveAll_70 rfl (lv_at hl 3 rfl) ?_
      refine lv_if_eq (tgt := 83) hx hb dX10_arriveAll_71 (by decide) (fun c71 => ?_) (fun c71 => ?_)
      · have hw := hw.1 c71
        exact tb_X10_arriveAll_83 hx hb hml hown hts hK  _ hret K7 hK7 K17 hK17 a1 a2 a3 s0 v2 _ _ _ hw (lv_sub hl [1, 2, 3, 4, 0] rfl) hP hS
      · have hw := hw.2 c71
        refine lv_aload_n hx hb dX10_arriveAll_74 rfl (lv_at hl 1 rfl) ?_
        refine lv_iconst (v := 2) hx hb dX10_arriveAll_75 (by decide) ?_
        refine lv_iload_n hx hb dX10_arriveAll_76 rfl (lv_at hl 4 rfl) ?_
        refine k_I (As := [.int 2, .int a3]) (rest := []) ⟨hx, hb, hml, hown, hts⟩ (t_X10_hasFault l dC dI base cy 2 a3 v2 _ hw) (cwV 2 hts (gV ml_X10_311 mi_X10_hasFault mx_X10_hasFault mn_X10 mo_X10_hasFault) rfl rfl rfl (by decide +kernel) ⟨by decide, by decide⟩) hK hP hS th10 (by decide) rfl rfl hl.1 rfl (Nat.le_of_ble_eq_true rfl) dX10_arriveAll_77 ⟨Nat.zero_le _, Nat.zero_le _⟩ (fun x77 v3 H locs hw hP hS => ?_)
        refine lv_if_eq (tgt := 87) hx hb dX10_arriveAll_80 (by decide) (fun c80 => ?_) (fun c80 => ?_)
        · have hw := hw.1 c80
          exact tb_X10_arriveAll_87 hx hb hml hown hts hK  _ hret K7 hK7 K17 hK17 a1 a2 a3 s0 v3 _ _ _ hw (lv_sub hl [1, 2, 3, 4, 0] rfl) hP hS
        · have hw := hw.2 c80
          exact tb_X10_arriveAll_83 hx hb hml hown hts hK  _ hret K7 hK7 K17 hK17 a1 a2 a3 s0 v3 _ _ _ hw (lv_sub hl [1, 2, 3, 4, 0] rfl) hP hS
def b_X10_arriveAll_17  (Q : VV → Prop) (K7 : Int32 → Int32 → VV → Prop) (fu : Nat) : Int32 → Int32 → Int32 → VV → Prop :=
  Nat.rec (motive := fun _ => Int32 → Int32 → Int32 → VV → Prop) (fun _ _ _ _ => False) (fun _ ih a1 a2 a3 v => (a1 ≤ a3 → ∀ x106 : Int32, x106 = a2 + 1 → K7 a1 x106 v) ∧ (¬ a1 ≤ a3 → w_X10_hasFault 3 a3 v (fun (x25 : Int32) (v1 : VV) => (x25 = 0 → b_X10_arriveAll_37  Q K7 ih a1 a2 a3 2 v1) ∧ (¬ x25 = 0 → b_X10_arriveAll_37  Q K7 ih a1 a2 a3 7 v1)))) fu
set_option maxHeartbeats 4000000 in
set_option maxRecDepth 100000 in
theorem tb_X10_arriveAll_17 {p : Program} {l : Launch} {e : Env} {s : State} {m : MethodId} {args : Array Value} {below : List Frame} {meth : Method} {c : Code} {QQ : State → Prop} {dC : Nat → ClassId} {dI : Nat → Nat → Nat} {base : Nat} {cy : Nat → ClassId} (hx : p.tables.exec = Jvm.exec) (hb : c.code = cX10_arriveAll) (hml : c.maxLocals = 6) (hown : s.vm.findClass RX10 = some m.cls) (hts : ∀ w ∈ TB, w.before args s = true) (hK : va_K (dC, dI) vwCl (tyL cy) s)  (Q : VV → Prop) (hret : ∀ (pc : Nat) (v : VV) (H : Heap) (locs : List Loc) (ls : Array Slot), decode cX10_arriveAll pc = .ok (.return_, 1) → Q v → va_P (dC, dI) vwCl (Wd base cy rf v 874) H → va_S (fun q => base ≤ q) s.heap H locs → W p l e { frames := 7, cells := 0, slots := 0, locals := 162 } s m args below meth c H locs 0 0 QQ (F0 m pc ls [])) (K7 : Int32 → Int32 → VV → Prop) (hK7 : ∀ (a1 : Int32) (a2 : Int32) (v : VV) (H : Heap) (locs : List Loc) (ls : Array Slot), K7 a1 a2 v → lv_has ls 6 [(0, .ref (base + 816)), (1, .int a1), (2, .int a2)] → va_P (dC, dI) vwCl (Wd base cy rf v 874) H → va_S (fun q => base ≤ q) s.heap H locs → W p l e { frames := 7, cells := 0, slots := 0, locals := 162 } s m args below meth c H locs 0 0 QQ (F0 m 7 ls [])) : ∀ (fu : Nat) (a1 : Int32) (a2 : Int32) (a3 : Int32) (v : VV) (H : Heap) (locs : List Loc) (ls : Array Slot), b_X10_arriveAll_17  Q K7 fu a1 a2 a3 v → lv_has ls 6 [(0, .ref (base + 816)), (1, .int a1), (2, .int a2), (3, .int a3)] → va_P (dC, dI) vwCl (Wd base cy rf v 874) H → va_S (fun q => base ≤ q) s.heap H locs → W p l e { frames := 7, cells := 0, slots := 0, locals := 162 } s m args below meth c H locs 0 0 QQ (F0 m 17 ls []) := by
  intro fu
  induction fu with
  | zero =>
    intro a1 a2 a3 v H locs ls hw hl hP hS
    exact hw.elim
  | succ fu ih =>
    intro a1 a2 a3 v H locs ls hw hl hP hS
    refine lv_iload_n hx hb dX10_arriveAll_17 rfl (lv_at hl 3 rfl) ?_
    refine lv_iload_n hx hb dX10_arriveAll_18 rfl (lv_at hl 1 rfl) ?_
    refine lv_icmp_ge (tgt := 106) hx hb dX10_arriveAll_19 (by decide) (fun c19 => ?_) (fun c19 => ?_)
    · have hw := hw.1 c19
      obtain ⟨x106, ex106⟩ : ∃ y : Int32, y = a2 + 1 := ⟨_, rfl⟩
      have hw := hw x106 ex106
      refine lv_iinc (v := x106) (lv' := [(2, .int x106), (0, .ref (base + 816)), (1, .int a1), (3, .int a3)]) hx hb dX10_arriveAll_106 hl (k := 2) rfl (by rw [ex106]; first | rfl | (rw [show Int32.ofInt (-1) = (-1 : Int32) from by decide])) (by decide) rfl (fun ls hl => ?_)
      refine lv_goto (tgt := 7) hx hb dX10_arriveAll_109 (by decide) ?_
      exact hK7 a1 x106 v _ _ _ hw (lv_sub hl [1, 2, 0] rfl) hP hS
    · have hw := hw.2 c19
      refine lv_aload_n hx hb dX10_arriveAll_22 rfl (lv_at hl 0 rfl) ?_
      refine lv_iconst (v := 3) hx hb dX10_arriveAll_23 (by decide) ?_
      refine lv_iload_n hx hb dX10_arriveAll_24 rfl (lv_at hl 3 rfl) ?_
      refine k_I (As := [.int 3, .int a3]) (rest := []) ⟨hx, hb, hml, hown, hts⟩ (t_X10_hasFault l dC dI base cy 3 a3 v _ hw) (cwV 2 hts (gV ml_X10_311 mi_X10_hasFault mx_X10_hasFault mn_X10 mo_X10_hasFault) rfl rfl rfl (by decide +kernel) ⟨by decide, by decide⟩) hK hP hS th10 (by decide) rfl rfl hl.1 rfl (Nat.le_of_ble_eq_true rfl) dX10_arriveAll_25 ⟨Nat.zero_le _, Nat.zero_le _⟩ (fun x25 v1 H locs hw hP hS => ?_)
      refine lv_if_eq (tgt := 36) hx hb dX10_arriveAll_28 (by decide) (fun c28 => ?_) (fun c28 => ?_)
      · have hw := hw.1 c28
        refine lv_iconst (v := 2) hx hb dX10_arriveAll_36 (by decide) ?_
        exact tb_X10_arriveAll_37 hx hb hml hown hts hK  _ hret K7 hK7 _ ih a1 a2 a3 2 v1 _ _ _ hw (lv_sub hl [0, 1, 2, 3] rfl) hP hS
      · have hw := hw.2 c28
        refine lv_bipush (v := 7) hx hb dX10_arriveAll_31 (by decide) ?_
        refine lv_goto (tgt := 37) hx hb dX10_arriveAll_33 (by decide) ?_
        exact tb_X10_arriveAll_37 hx hb hml hown hts hK  _ hret K7 hK7 _ ih a1 a2 a3 7 v1 _ _ _ hw (lv_sub hl [0, 1, 2, 3] rfl) hP hS
def b_X10_arriveAll_7  (Q : VV → Prop) (fu : Nat) : Int32 → Int32 → VV → Prop :=
  Nat.rec (motive := fun _ => Int32 → Int32 → VV → Prop) (fun _ _ _ => False) (fun _ ih a1 a2 v => (2 ≤ a2 → ∃ fu : Nat, b_X10_arriveAll_112  Q  fu a1 a2 v) ∧ (¬ 2 ≤ a2 → ∀ x13 : Int32, x13 = v 816 55 → ∃ fu : Nat, b_X10_arriveAll_17  Q ih fu a1 a2 x13 v)) fu
set_option maxHeartbeats 4000000 in
set_option maxRecDepth 100000 in
theorem tb_X10_arriveAll_7 {p : Program} {l : Launch} {e : Env} {s : State} {m : MethodId} {args : Array Value} {below : List Frame} {meth : Method} {c : Code} {QQ : State → Prop} {dC : Nat → ClassId} {dI : Nat → Nat → Nat} {base : Nat} {cy : Nat → ClassId} (hx : p.tables.exec = Jvm.exec) (hb : c.code = cX10_arriveAll) (hml : c.maxLocals = 6) (hown : s.vm.findClass RX10 = some m.cls) (hts : ∀ w ∈ TB, w.before args s = true) (hK : va_K (dC, dI) vwCl (tyL cy) s)  (Q : VV → Prop) (hret : ∀ (pc : Nat) (v : VV) (H : Heap) (locs : List Loc) (ls : Array Slot), decode cX10_arriveAll pc = .ok (.return_, 1) → Q v → va_P (dC, dI) vwCl (Wd base cy rf v 874) H → va_S (fun q => base ≤ q) s.heap H locs → W p l e { frames := 7, cells := 0, slots := 0, locals := 162 } s m args below meth c H locs 0 0 QQ (F0 m pc ls [])) : ∀ (fu : Nat) (a1 : Int32) (a2 : Int32) (v : VV) (H : Heap) (locs : List Loc) (ls : Array Slot), b_X10_arriveAll_7  Q  fu a1 a2 v → lv_has ls 6 [(0, .ref (base + 816)), (1, .int a1), (2, .int a2)] → va_P (dC, dI) vwCl (Wd base cy rf v 874) H → va_S (fun q => base ≤ q) s.heap H locs → W p l e { frames := 7, cells := 0, slots := 0, locals := 162 } s m args below meth c H locs 0 0 QQ (F0 m 7 ls []) := by
  intro fu
  induction fu with
  | zero =>
    intro a1 a2 v H locs ls hw hl hP hS
    exact hw.elim
  | succ fu ih =>
    intro a1 a2 v H locs ls hw hl hP hS
    refine lv_iload_n hx hb dX10_arriveAll_7 rfl (lv_at hl 2 rfl) ?_
    refine lv_iconst (v := 2) hx hb dX10_arriveAll_8 (by decide) ?_
    refine lv_icmp_ge (tgt := 112) hx hb dX10_arriveAll_9 (by decide) (fun c9 => ?_) (fun c9 => ?_)
    · have hw := hw.1 c9
      obtain ⟨fu, hw⟩ := hw
      exact tb_X10_arriveAll_112 hx hb hml hown hts hK  _ hret  fu a1 a2 v _ _ _ hw (lv_sub hl [0, 1, 2] rfl) hP hS
    · have hw := hw.2 c9
      refine lv_aload_n hx hb dX10_arriveAll_12 rfl (lv_at hl 0 rfl) ?_
      refine w_gI (C := RX10) (T := TX10) (N := 64) (ci := 10) hx hb hts in10 hown hK hP 55 th10.1 th10 rfl (by decide) (hts _ mf_X10_308) dX10_arriveAll_13 ?_
      refine lv_topi (fun x13 ex13 => ?_)
      have hw := hw x13 ex13
      refine lv_istore_n (lv' := [(3, .int x13), (0, .ref (base + 816)), (1, .int a1), (2, .int a2)]) hx hb dX10_arriveAll_16 rfl hl (by decide) rfl (fun ls hl => ?_)
      obtain ⟨fu, hw⟩ := hw
      exact tb_X10_arriveAll_17 hx hb hml hown hts hK  _ hret _ ih fu a1 a2 x13 v _ _ _ hw (lv_sub hl [1, 2, 3, 0] rfl) hP hS
def w_X10_arriveAll  (v : VV) (Q : VV → Prop) : Prop :=
  ∀ x1 : Int32, x1 = v 816 54 → ∃ fu : Nat, b_X10_arriveAll_7  Q  fu x1 0 v
set_option maxHeartbeats 4000000 in
set_option maxRecDepth 100000 in
/-- TransportFourModel.arriveAll -/
theorem t_X10_arriveAll (l : Launch) (dC : Nat → ClassId) (dI : Nat → Nat → Nat) (base : Nat) (cy : Nat → ClassId)  (v : VV) (Q : VV → Prop) (hw : w_X10_arriveAll  v Q) : CV l yX10_arriveAll (.code yX10_arriveAll cX10_arriveAll 6 none :: TB) { frames := 7, cells := 0, slots := 0, locals := 162 } dC dI base cy [.ref (base + 816)] v Q := by
  refine Met.ofW (cc := cX10_arriveAll) (maxL := 6) (ret := none) (by decide) rfl ?_
  intro p e s m args below meth c s₁ B hml hv
  obtain ⟨rfl, hP, hK⟩ := hv
  have hx := B.exec
  have hb := B.bytes
  have hr := B.returns
  have hts0 := atoms_spec (ws := (.code yX10_arriveAll cX10_arriveAll 6 none :: TB)) B.pre
  have hts : ∀ w ∈ TB, w.before ([.ref (base + 816)]).toArray s = true := fun w h => hts0 w (List.mem_cons_of_mem _ h)
  have hown : s.vm.findClass RX10 = some m.cls := findClass_of_methodNamed B.named
  have hlocks := B.notSynchronized
  have hS : va_S (fun q => base ≤ q) s.heap s.heap [] := va_S.rf
  have hl := lv_entry ([.ref (base + 816)]) (n := 6) (Nat.le_of_ble_eq_true rfl)
  rw [lg_entry_eq]
  generalize (lg_sl ([.ref (base + 816)]) ++ List.replicate (6 - (lg_sl ([.ref (base + 816)])).length) Slot.unset).toArray = ls at hl ⊢
  have hl : lv_has ls 6 [(0, .ref (base + 816))] := hl
  have hret : ∀ (pc : Nat) (v : VV) (H : Heap) (locs : List Loc) (ls : Array Slot), decode cX10_arriveAll pc = .ok (.return_, 1) → Q v → va_P (dC, dI) vwCl (Wd base cy rf v 874) H → va_S (fun q => base ≤ q) s.heap H locs → W p l e { frames := 7, cells := 0, slots := 0, locals := 162 } s m ([.ref (base + 816)]).toArray below meth c H locs 0 0 (MQ below (va_Qv Q (Hp dC dI base cy) (fun q => base ≤ q)) ([.ref (base + 816)]).toArray s 0 0 (fun q => base ≤ q)) (F0 m pc ls []) := fun pc v H locs ls hd hq hP hS => W.vret hx hb hr (fun t ht hW => ⟨⟨v, rfl, hq, by rw [ht]; exact hP, va_K.moved hW.alike hK⟩, hS.F ht⟩) hS.2.2 hd
  refine lv_aload_n hx hb dX10_arriveAll_0 rfl (lv_at hl 0 rfl) ?_
  refine w_gI (C := RX10) (T := TX10) (N := 64) (ci := 10) hx hb hts in10 hown hK hP 54 th10.1 th10 rfl (by decide) (hts _ mf_X10_195) dX10_arriveAll_1 ?_
  refine lv_topi (fun x1 ex1 => ?_)
  have hw := hw x1 ex1
  refine lv_istore_n (lv' := [(1, .int x1), (0, .ref (base + 816))]) hx hb dX10_arriveAll_4 rfl hl (by decide) rfl (fun ls hl => ?_)
  refine lv_iconst (v := 0) hx hb dX10_arriveAll_5 (by decide) ?_
  refine lv_istore_n (lv' := [(2, .int 0), (1, .int x1), (0, .ref (base + 816))]) hx hb dX10_arriveAll_6 rfl hl (by decide) rfl (fun ls hl => ?_)
  obtain ⟨fu, hw⟩ := hw
  exact tb_X10_arriveAll_7 hx hb hml hown hts hK  _ hret  fu x1 0 v _ _ _ hw (lv_sub hl [2, 1, 0] rfl) hP hS
def b_X10_isDue_47 (p1 : Int32) (p2 : Int32) (p3 : Int32) (Q : Int32 → VV → Prop) (a1 : Int32) (a2 : Int32) (a3 : Int32) (v : VV) : Prop :=
  (4 ≤ a2 → Q 0 v) ∧ (¬ 4 ≤ a2 → Q 1 v)
set_option maxHeartbeats 4000000 in
set_option maxRecDepth 100000 in
theorem tb_X10_isDue_47 {p : Program} {l : Launch} {e : Env} {s : State} {m : MethodId} {args : Array Value} {below : List Frame} {meth : Method} {c : Code} {QQ : State → Prop} {dC : Nat → ClassId} {dI : Nat → Nat → Nat} {base : Nat} {cy : Nat → ClassId} (hx : p.tables.exec = Jvm.exec) (hb : c.code = cX10_isDue) (hml : c.maxLocals = 4) (hown : s.vm.findClass RX10 = some m.cls) (hts : ∀ w ∈ TB, w.before args s = true) (hK : va_K (dC, dI) vwCl (tyL cy) s) (p1 : Int32) (p2 : Int32) (p3 : Int32) (Q : Int32 → VV → Prop) (hret : ∀ (pc : Nat) (x : Int32) (v : VV) (H : Heap) (locs : List Loc) (ls : Array Slot), decode cX10_isDue pc = .ok (.ireturn, 1) → (x = 0 ∨ x = 1) → Q x v → va_P (dC, dI) vwCl (Wd base cy rf v 874) H → va_S (fun q => base ≤ q) s.heap H locs → W p l e { frames := 4, cells := 0, slots := 0, locals := 90 } s m args below meth c H locs 0 0 QQ (F0 m pc ls [.int x])) (a1 : Int32) (a2 : Int32) (a3 : Int32) (v : VV) (H : Heap) (locs : List Loc) (ls : Array Slot) (hw : b_X10_isDue_47 p1 p2 p3 Q  a1 a2 a3 v) : lv_has ls 4 [(0, .ref (base + 816)), (1, .int a1), (2, .int a2), (3, .int a3)] → va_P (dC, dI) vwCl (Wd base cy rf v 874) H → va_S (fun q => base ≤ q) s.heap H locs → W p l e { frames := 4, cells := 0, slots := 0, locals := 90 } s m args below meth c H locs 0 0 QQ (F0 m 47 ls []) := by
  intro hl hP hS
  refine lv_iload_n hx hb dX10_isDue_47 rfl (lv_at hl 2 rfl) ?_
  refine lv_iconst (v := 4) hx hb dX10_isDue_48 (by decide) ?_
  refine lv_icmp_ge (tgt := 56) hx hb dX10_isDue_49 (by decide) (fun c49 => ?_) (fun c49 => ?_)
  · have hw := hw.1 c49
    refine lv_iconst (v := 0) hx hb dX10_isDue_56 (by decide) ?_
    exact hret _ _ _ _ _ _ dX10_isDue_57 (by decide) hw hP hS
  · have hw := hw.2 c49
    refine lv_iconst (v := 1) hx hb dX10_isDue_52 (by decide) ?_
    refine lv_goto (tgt := 57) hx hb dX10_isDue_53 (by decide) ?_
    exact hret _ _ _ _ _ _ dX10_isDue_57 (by decide) hw hP hS
def b_X10_isDue_35 (p1 : Int32) (p2 : Int32) (p3 : Int32) (Q : Int32 → VV → Prop) (a1 : Int32) (a2 : Int32) (a3 : Int32) (v : VV) : Prop :=
  Q 0 v
set_option maxHeartbeats 4000000 in
set_option maxRecDepth 100000 in
theorem tb_X10_isDue_35 {p : Program} {l : Launch} {e : Env} {s : State} {m : MethodId} {args : Array Value} {below : List Frame} {meth : Method} {c : Code} {QQ : State → Prop} {dC : Nat → ClassId} {dI : Nat → Nat → Nat} {base : Nat} {cy : Nat → ClassId} (hx : p.tables.exec = Jvm.exec) (hb : c.code = cX10_isDue) (hml : c.maxLocals = 4) (hown : s.vm.findClass RX10 = some m.cls) (hts : ∀ w ∈ TB, w.before args s = true) (hK : va_K (dC, dI) vwCl (tyL cy) s) (p1 : Int32) (p2 : Int32) (p3 : Int32) (Q : Int32 → VV → Prop) (hret : ∀ (pc : Nat) (x : Int32) (v : VV) (H : Heap) (locs : List Loc) (ls : Array Slot), decode cX10_isDue pc = .ok (.ireturn, 1) → (x = 0 ∨ x = 1) → Q x v → va_P (dC, dI) vwCl (Wd base cy rf v 874) H → va_S (fun q => base ≤ q) s.heap H locs → W p l e { frames := 4, cells := 0, slots := 0, locals := 90 } s m args below meth c H locs 0 0 QQ (F0 m pc ls [.int x])) (a1 : Int32) (a2 : Int32) (a3 : Int32) (v : VV) (H : Heap) (locs : List Loc) (ls : Array Slot) (hw : b_X10_isDue_35 p1 p2 p3 Q  a1 a2 a3 v) : lv_has ls 4 [(0, .ref (base + 816)), (1, .int a1), (2, .int a2), (3, .int a3)] → va_P (dC, dI) vwCl (Wd base cy rf v 874) H → va_S (fun q => base ≤ q) s.heap H locs → W p l e { frames := 4, cells := 0, slots := 0, locals := 90 } s m args below meth c H locs 0 0 QQ (F0 m 35 ls []) := by
  intro hl hP hS
  refine lv_iconst (v := 0) hx hb dX10_isDue_35 (by decide) ?_
  exact hret _ _ _ _ _ _ dX10_isDue_36 (by decide) hw hP hS
def w_X10_isDue (p1 : Int32) (p2 : Int32) (p3 : Int32) (v : VV) (Q : Int32 → VV → Prop) : Prop :=
  vp_in p1 2 ∧ ∀ x5 : Int32, x5 = v 817 (Int32.toNatClampNeg p1) → (x5 < 1 → b_X10_isDue_35 p1 p2 p3 Q  p1 p2 p3 v) ∧ (¬ x5 < 1 → vp_in p1 2 ∧ ∀ x15 : Int32, x15 = v 817 (Int32.toNatClampNeg p1) → (3 < x15 → b_X10_isDue_35 p1 p2 p3 Q  p1 p2 p3 v) ∧ (¬ 3 < x15 → (p2 = 0 → b_X10_isDue_35 p1 p2 p3 Q  p1 p2 p3 v) ∧ (¬ p2 = 0 → ∀ x25 : Int32, x25 = v 816 0 → ∀ x29 : Int32, x29 = x25 - p3 → (8 ≤ x29 → (¬ p2 = 4 → b_X10_isDue_47 p1 p2 p3 Q  p1 p2 p3 v) ∧ (p2 = 4 → w_X10_giveUp p1 v (fun (v3 : VV) => b_X10_isDue_47 p1 p2 p3 Q  p1 p2 p3 v3))) ∧ (¬ 8 ≤ x29 → b_X10_isDue_35 p1 p2 p3 Q  p1 p2 p3 v))))
set_option maxHeartbeats 4000000 in
set_option maxRecDepth 100000 in
/-- TransportFourModel.isDue -/
theorem t_X10_isDue (l : Launch) (dC : Nat → ClassId) (dI : Nat → Nat → Nat) (base : Nat) (cy : Nat → ClassId) (p1 : Int32) (p2 : Int32) (p3 : Int32) (v : VV) (Q : Int32 → VV → Prop) (hw : w_X10_isDue p1 p2 p3 v Q) : CI l yX10_isDue (.code yX10_isDue cX10_isDue 4 (some .boolean) :: TB) { frames := 4, cells := 0, slots := 0, locals := 90 } dC dI base cy [.ref (base + 816), .int p1, .int p2, .int p3] v Q := by
  refine Met.ofW (cc := cX10_isDue) (maxL := 4) (ret := (some .boolean)) (by decide) rfl ?_
  intro p e s m args below meth c s₁ B hml hv
  obtain ⟨rfl, hP, hK⟩ := hv
  have hx := B.exec
  have hb := B.bytes
  have hr := B.returns
  have hts0 := atoms_spec (ws := (.code yX10_isDue cX10_isDue 4 (some .boolean) :: TB)) B.pre
  have hts : ∀ w ∈ TB, w.before ([.ref (base + 816), .int p1, .int p2, .int p3]).toArray s = true := fun w h => hts0 w (List.mem_cons_of_mem _ h)
  have hown : s.vm.findClass RX10 = some m.cls := findClass_of_methodNamed B.named
  have hlocks := B.notSynchronized
  have hS : va_S (fun q => base ≤ q) s.heap s.heap [] := va_S.rf
  have hl := lv_entry ([.ref (base + 816), .int p1, .int p2, .int p3]) (n := 4) (Nat.le_of_ble_eq_true rfl)
  rw [lg_entry_eq]
  generalize (lg_sl ([.ref (base + 816), .int p1, .int p2, .int p3]) ++ List.replicate (4 - (lg_sl ([.ref (base + 816), .int p1, .int p2, .int p3])).length) Slot.unset).toArray = ls at hl ⊢
  have hl : lv_has ls 4 [(0, .ref (base + 816)), (1, .int p1), (2, .int p2), (3, .int p3)] := hl
  have hret : ∀ (pc : Nat) (x : Int32) (v : VV) (H : Heap) (locs : List Loc) (ls : Array Slot), decode cX10_isDue pc = .ok (.ireturn, 1) → (x = 0 ∨ x = 1) → Q x v → va_P (dC, dI) vwCl (Wd base cy rf v 874) H → va_S (fun q => base ≤ q) s.heap H locs → W p l e { frames := 4, cells := 0, slots := 0, locals := 90 } s m ([.ref (base + 816), .int p1, .int p2, .int p3]).toArray below meth c H locs 0 0 (MQ below (va_Qi Q (Hp dC dI base cy) (fun q => base ≤ q)) ([.ref (base + 816), .int p1, .int p2, .int p3]).toArray s 0 0 (fun q => base ≤ q)) (F0 m pc ls [.int x]) := fun pc x v H locs ls hd hz hq hP hS => W.zret (v := x) hx hb hr (zb_n hz) (fun t ht hW => ⟨⟨x, v, rfl, hq, by rw [ht]; exact hP, va_K.moved hW.alike hK⟩, hS.F ht⟩) hS.2.2 hd
  refine lv_aload_n hx hb dX10_isDue_0 rfl (lv_at hl 0 rfl) ?_
  refine w_gR (C := RX10) (T := TX10) (N := 64) (ci := 10) hx hb hts in10 hown hK hP 1 th10.1 th10 rfl (by decide) (ch10_1 th10).1 (hts _ mf_X10_7) dX10_isDue_1 ?_
  refine lv_iload_n hx hb dX10_isDue_4 rfl (lv_at hl 1 rfl) ?_
  obtain ⟨hi1, hw⟩ := hw
  refine w_ia (N := 2) hx hb hK hP (ch10_1 th10).2.1.1 (ch10_1 th10).2.1 (ch10_1 th10).2.2 hi1 dX10_isDue_5 ?_
  refine lv_topi (fun x5 ex5 => ?_)
  have hw := hw x5 ex5
  refine lv_iconst (v := 1) hx hb dX10_isDue_6 (by decide) ?_
  refine lv_icmp_lt (tgt := 35) hx hb dX10_isDue_7 (by decide) (fun c7 => ?_) (fun c7 => ?_)
  · have hw := hw.1 c7
    exact tb_X10_isDue_35 hx hb hml hown hts hK p1 p2 p3 _ hret  p1 p2 p3 v _ _ _ hw (lv_sub hl [0, 1, 2, 3] rfl) hP hS
  · have hw := hw.2 c7
    refine lv_aload_n hx hb dX10_isDue_10 rfl (lv_at hl 0 rfl) ?_
    refine w_gR (C := RX10) (T := TX10) (N := 64) (ci := 10) hx hb hts in10 hown hK hP 1 th10.1 th10 rfl (by decide) (ch10_1 th10).1 (hts _ mf_X10_7) dX10_isDue_11 ?_
    refine lv_iload_n hx hb dX10_isDue_14 rfl (lv_at hl 1 rfl) ?_
    obtain ⟨hi2, hw⟩ := hw
    refine w_ia (N := 2) hx hb hK hP (ch10_1 th10).2.1.1 (ch10_1 th10).2.1 (ch10_1 th10).2.2 hi2 dX10_isDue_15 ?_
    refine lv_topi (fun x15 ex15 => ?_)
    have hw := hw x15 ex15
    refine lv_iconst (v := 3) hx hb dX10_isDue_16 (by decide) ?_
    refine lv_icmp_gt (tgt := 35) hx hb dX10_isDue_17 (by decide) (fun c17 => ?_) (fun c17 => ?_)
    · have hw := hw.1 c17
      exact tb_X10_isDue_35 hx hb hml hown hts hK p1 p2 p3 _ hret  p1 p2 p3 v _ _ _ hw (lv_sub hl [0, 1, 2, 3] rfl) hP hS
    · have hw := hw.2 c17
      refine lv_iload_n hx hb dX10_isDue_20 rfl (lv_at hl 2 rfl) ?_
      refine lv_if_eq (tgt := 35) hx hb dX10_isDue_21 (by decide) (fun c21 => ?_) (fun c21 => ?_)
      · have hw := hw.1 c21
        exact tb_X10_isDue_35 hx hb hml hown hts hK p1 p2 p3 _ hret  p1 p2 p3 v _ _ _ hw (lv_sub hl [0, 1, 2, 3] rfl) hP hS
      · have hw := hw.2 c21
        refine lv_aload_n hx hb dX10_isDue_24 rfl (lv_at hl 0 rfl) ?_
        refine w_gI (C := RX10) (T := TX10) (N := 64) (ci := 10) hx hb hts in10 hown hK hP 0 th10.1 th10 rfl (by decide) (hts _ mf_X10_198) dX10_isDue_25 ?_
        refine lv_topi (fun x25 ex25 => ?_)
        have hw := hw x25 ex25
        refine lv_iload_n hx hb dX10_isDue_28 rfl (lv_at hl 3 rfl) ?_
        refine lv_isub hx hb dX10_isDue_29 ?_
        refine lv_topi (fun x29 ex29 => ?_)
        have hw := hw x29 ex29
        refine lv_bipush (v := 8) hx hb dX10_isDue_30 (by decide) ?_
        refine lv_icmp_ge (tgt := 37) hx hb dX10_isDue_32 (by decide) (fun c32 => ?_) (fun c32 => ?_)
        · have hw := hw.1 c32
          refine lv_iload_n hx hb dX10_isDue_37 rfl (lv_at hl 2 rfl) ?_
          refine lv_iconst (v := 4) hx hb dX10_isDue_38 (by decide) ?_
          refine lv_icmp_ne (tgt := 47) hx hb dX10_isDue_39 (by decide) (fun c39 => ?_) (fun c39 => ?_)
          · have hw := hw.1 c39
            exact tb_X10_isDue_47 hx hb hml hown hts hK p1 p2 p3 _ hret  p1 p2 p3 v _ _ _ hw (lv_sub hl [0, 1, 2, 3] rfl) hP hS
          · have hw := hw.2 c39
            refine lv_aload_n hx hb dX10_isDue_42 rfl (lv_at hl 0 rfl) ?_
            refine lv_iload_n hx hb dX10_isDue_43 rfl (lv_at hl 1 rfl) ?_
            refine k_V (As := [.int p1]) (rest := []) ⟨hx, hb, hml, hown, hts⟩ (t_X10_giveUp l dC dI base cy p1 v _ hw) (cwV 1 hts (gV ml_X10_318 mi_X10_giveUp mx_X10_giveUp mn_X10 mo_X10_giveUp) rfl rfl rfl (by decide +kernel) ⟨by decide, by decide⟩) hK hP hS th10 (by decide) rfl rfl hl.1 rfl (Nat.le_of_ble_eq_true rfl) dX10_isDue_44 ⟨Nat.zero_le _, Nat.zero_le _⟩ (fun v3 H locs hw hP hS => ?_)
            exact tb_X10_isDue_47 hx hb hml hown hts hK p1 p2 p3 _ hret  p1 p2 p3 v3 _ _ _ hw (lv_sub hl [0, 1, 2, 3] rfl) hP hS
        · have hw := hw.2 c32
          exact tb_X10_isDue_35 hx hb hml hown hts hK p1 p2 p3 _ hret  p1 p2 p3 v _ _ _ hw (lv_sub hl [0, 1, 2, 3] rfl) hP hS
