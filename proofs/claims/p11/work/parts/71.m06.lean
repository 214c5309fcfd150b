def b_X10_putBehind_217 (p1 : Int32) (Q : VV → Prop) (K13 : Int32 → Int32 → VV → Prop) (a1 : Int32) (a2 : Int32) (a3 : Int32) (v : VV) : Prop :=
  vp_in a2 256 ∧ ∀ v1 : VV, v1 = up2 v 848 (Int32.toNatClampNeg a2) ((-1)) → vp_in a1 2 ∧ ∀ x234 : Int32, x234 = v1 846 (Int32.toNatClampNeg a1) → ∀ x236 : Int32, x236 = x234 + 1 → w_X10_mod x236 v1 (fun (x237 : Int32) (v4 : VV) => vp_in a1 2 ∧ ∀ v5 : VV, v5 = up2 v4 846 (Int32.toNatClampNeg a1) x237 → ∀ x245 : Int32, x245 = 128 * a1 → vp_in a1 2 ∧ ∀ x251 : Int32, x251 = v5 846 (Int32.toNatClampNeg a1) → ∀ x252 : Int32, x252 = x245 + x251 → K13 a1 x252 v5)
set_option maxHeartbeats 4000000 in
set_option maxRecDepth 100000 in
theorem tb_X10_putBehind_217 {p : Program} {l : Launch} {e : Env} {s : State} {m : MethodId} {args : Array Value} {below : List Frame} {meth : Method} {c : Code} {QQ : State → Prop} {dC : Nat → ClassId} {dI : Nat → Nat → Nat} {base : Nat} {cy : Nat → ClassId} (hx : p.tables.exec = Jvm.exec) (hb : c.code = cX10_putBehind) (hml : c.maxLocals = 5) (hown : s.vm.findClass RX10 = some m.cls) (hts : ∀ w ∈ TB, w.before args s = true) (hK : va_K (dC, dI) vwCl (tyL cy) s) (p1 : Int32) (Q : VV → Prop) (hret : ∀ (pc : Nat) (v : VV) (H : Heap) (locs : List Loc) (ls : Array Slot), decode cX10_putBehind pc = .ok (.return_, 1) → Q v → va_P (dC, dI) vwCl (Wd base cy rf v 874) H → va_S (fun q => base ≤ q) s.heap H locs → W p l e { frames := 1, cells := 0, slots := 0, locals := 20 } s m args below meth c H locs 0 0 QQ (F0 m pc ls [])) (K13 : Int32 → Int32 → VV → Prop) (hK13 : ∀ (a1 : Int32) (a2 : Int32) (v : VV) (H : Heap) (locs : List Loc) (ls : Array Slot), K13 a1 a2 v → lv_has ls 5 [(0, .ref (base + 816)), (1, .int a1), (2, .int a2)] → va_P (dC, dI) vwCl (Wd base cy rf v 874) H → va_S (fun q => base ≤ q) s.heap H locs → W p l e { frames := 1, cells := 0, slots := 0, locals := 20 } s m args below meth c H locs 0 0 QQ (F0 m 13 ls [])) (a1 : Int32) (a2 : Int32) (a3 : Int32) (v : VV) (H : Heap) (locs : List Loc) (ls : Array Slot) (hw : b_X10_putBehind_217 p1 Q K13 a1 a2 a3 v) : lv_has ls 5 [(0, .ref (base + 816)), (1, .int a1), (2, .int a2), (3, .int a3)] → va_P (dC, dI) vwCl (Wd base cy rf v 874) H → va_S (fun q => base ≤ q) s.heap H locs → W p l e { frames := 1, cells := 0, slots := 0, locals := 20 } s m args below meth c H locs 0 0 QQ (F0 m 217 ls []) := by
  intro hl hP hS
  refine lv_aload_n hx hb dX10_putBehind_217 rfl (lv_at hl 0 rfl) ?_
  refine w_gR (C := RX10) (T := TX10) (N := 64) (ci := 10) hx hb hts in10 hown hK hP 32 th10.1 th10 rfl (by decide) (ch10_32 th10).1 (hts _ mf_X10_104) dX10_putBehind_218 ?_
  refine lv_iload_n hx hb dX10_putBehind_221 rfl (lv_at hl 2 rfl) ?_
  refine lv_iconst (v := -1) hx hb dX10_putBehind_222 (by decide) ?_
  obtain ⟨hi2, hw⟩ := hw
  refine w_is (N := 256) hx hb hK hP hS (ch10_32 th10).2.1.1 (ch10_32 th10).2.1 (ch10_32 th10).2.2 hi2 dX10_putBehind_223 (fun v1 H locs hv1 hP hz hS => ?_)
  have hw := hw v1 hv1
  refine lv_aload_n hx hb dX10_putBehind_224 rfl (lv_at hl 0 rfl) ?_
  refine w_gR (C := RX10) (T := TX10) (N := 64) (ci := 10) hx hb hts in10 hown hK hP 30 th10.1 th10 rfl (by decide) (ch10_30 th10).1 (hts _ mf_X10_98) dX10_putBehind_225 ?_
  refine lv_iload_n hx hb dX10_putBehind_228 rfl (lv_at hl 1 rfl) ?_
  refine lv_aload_n hx hb dX10_putBehind_229 rfl (lv_at hl 0 rfl) ?_
  refine w_gR (C := RX10) (T := TX10) (N := 64) (ci := 10) hx hb hts in10 hown hK hP 30 th10.1 th10 rfl (by decide) (ch10_30 th10).1 (hts _ mf_X10_98) dX10_putBehind_230 ?_
  refine lv_iload_n hx hb dX10_putBehind_233 rfl (lv_at hl 1 rfl) ?_
  obtain ⟨hi3, hw⟩ := hw
  refine w_ia (N := 2) hx hb hK hP (ch10_30 th10).2.1.1 (ch10_30 th10).2.1 (ch10_30 th10).2.2 hi3 dX10_putBehind_234 ?_
  refine lv_topi (fun x234 ex234 => ?_)
  have hw := hw x234 ex234
  refine lv_iconst (v := 1) hx hb dX10_putBehind_235 (by decide) ?_
  refine lv_iadd hx hb dX10_putBehind_236 ?_
  refine lv_topi (fun x236 ex236 => ?_)
  have hw := hw x236 ex236
  refine kS_I (As := [.int x236]) (rest := [.int a1, .ref (base + 846)]) ⟨hx, hb, hml, hown, hts⟩ (t_X10_mod l dC dI base cy x236 v1 _ hw) (cwS 1 hts (gS ml_X10_221 mt_X10_mod mn_X10 mo_X10_mod) rfl rfl rfl (by decide +kernel) ⟨by decide, by decide⟩) hK hP hS rfl hl.1 rfl (Nat.le_of_ble_eq_true rfl) dX10_putBehind_237 ⟨Nat.zero_le _, Nat.zero_le _⟩ (fun x237 v4 H locs hw hP hS => ?_)
  obtain ⟨hi6, hw⟩ := hw
  refine w_is (N := 2) hx hb hK hP hS (ch10_30 th10).2.1.1 (ch10_30 th10).2.1 (ch10_30 th10).2.2 hi6 dX10_putBehind_240 (fun v5 H locs hv5 hP hz hS => ?_)
  have hw := hw v5 hv5
  refine lv_sipush (v := 128) hx hb dX10_putBehind_241 (by decide) ?_
  refine lv_iload_n hx hb dX10_putBehind_244 rfl (lv_at hl 1 rfl) ?_
  refine lv_imul hx hb dX10_putBehind_245 ?_
  refine lv_topi (fun x245 ex245 => ?_)
  have hw := hw x245 ex245
  refine lv_aload_n hx hb dX10_putBehind_246 rfl (lv_at hl 0 rfl) ?_
  refine w_gR (C := RX10) (T := TX10) (N := 64) (ci := 10) hx hb hts in10 hown hK hP 30 th10.1 th10 rfl (by decide) (ch10_30 th10).1 (hts _ mf_X10_98) dX10_putBehind_247 ?_
  refine lv_iload_n hx hb dX10_putBehind_250 rfl (lv_at hl 1 rfl) ?_
  obtain ⟨hi7, hw⟩ := hw
  refine w_ia (N := 2) hx hb hK hP (ch10_30 th10).2.1.1 (ch10_30 th10).2.1 (ch10_30 th10).2.2 hi7 dX10_putBehind_251 ?_
  refine lv_topi (fun x251 ex251 => ?_)
  have hw := hw x251 ex251
  refine lv_iadd hx hb dX10_putBehind_252 ?_
  refine lv_topi (fun x252 ex252 => ?_)
  have hw := hw x252 ex252
  refine lv_istore_n (lv' := [(2, .int x252), (0, .ref (base + 816)), (1, .int a1), (3, .int a3)]) hx hb dX10_putBehind_253 rfl hl (by decide) rfl (fun ls hl => ?_)
  refine lv_goto (tgt := 13) hx hb dX10_putBehind_254 (by decide) ?_
  exact hK13 a1 x252 v5 _ _ _ hw (lv_sub hl [1, 2, 0] rfl) hP hS
def b_X10_putBehind_136 (p1 : Int32) (Q : VV → Prop) (K13 : Int32 → Int32 → VV → Prop) (fu : Nat) : Int32 → Int32 → Int32 → Int32 → VV → Prop :=
  Nat.rec (motive := fun _ => Int32 → Int32 → Int32 → Int32 → VV → Prop) (fun _ _ _ _ _ => False) (fun _ ih a1 a2 a3 a4 v => vp_in a1 2 ∧ ∀ x143 : Int32, x143 = v 851 (Int32.toNatClampNeg a1) → (x143 ≤ a4 → vp_in a1 2 ∧ ∀ x199 : Int32, x199 = v 854 (Int32.toNatClampNeg a1) → ∀ x201 : Int32, x201 = x199 + 1 → vp_in a1 2 ∧ ∀ v3 : VV, v3 = up2 v 854 (Int32.toNatClampNeg a1) x201 → vp_in a1 2 ∧ ∀ v5 : VV, v5 = up2 v3 851 (Int32.toNatClampNeg a1) 0 → vp_in a1 2 ∧ ∀ v7 : VV, v7 = up2 v5 852 (Int32.toNatClampNeg a1) 0 → b_X10_putBehind_217 p1 Q K13 a1 a2 a3 v7) ∧ (¬ x143 ≤ a4 → ∀ x155 : Int32, x155 = 8192 * a1 → vp_in a1 2 ∧ ∀ x161 : Int32, x161 = v 858 (Int32.toNatClampNeg a1) → ∀ x162 : Int32, x162 = x155 + x161 → ∀ x171 : Int32, x171 = 4096 * a1 → ∀ x174 : Int32, x174 = x171 + a4 → vp_in x174 8192 ∧ ∀ x175 : Int32, x175 = v 853 (Int32.toNatClampNeg x174) → vp_in x162 16384 ∧ ∀ v11 : VV, v11 = up2 v 857 (Int32.toNatClampNeg x162) x175 → vp_in a1 2 ∧ ∀ x183 : Int32, x183 = v11 858 (Int32.toNatClampNeg a1) → ∀ x185 : Int32, x185 = x183 + 1 → vp_in a1 2 ∧ ∀ v14 : VV, v14 = up2 v11 858 (Int32.toNatClampNeg a1) x185 → ∀ x187 : Int32, x187 = a4 + 1 → ih a1 a2 a3 x187 v14)) fu
set_option maxHeartbeats 4000000 in
set_option maxRecDepth 100000 in
theorem tb_X10_putBehind_136 {p : Program} {l : Launch} {e : Env} {s : State} {m : MethodId} {args : Array Value} {below : List Frame} {meth : Method} {c : Code} {QQ : State → Prop} {dC : Nat → ClassId} {dI : Nat → Nat → Nat} {base : Nat} {cy : Nat → ClassId} (hx : p.tables.exec = Jvm.exec) (hb : c.code = cX10_putBehind) (hml : c.maxLocals = 5) (hown : s.vm.findClass RX10 = some m.cls) (hts : ∀ w ∈ TB, w.before args s = true) (hK : va_K (dC, dI) vwCl (tyL cy) s) (p1 : Int32) (Q : VV → Prop) (hret : ∀ (pc : Nat) (v : VV) (H : Heap) (locs : List Loc) (ls : Array Slot), decode cX10_putBehind pc = .ok (.return_, 1) → Q v → va_P (dC, dI) vwCl (Wd base cy rf v 874) H → va_S (fun q => base ≤ q) s.heap H locs → W p l e { frames := 1, cells := 0, slots := 0, locals := 20 } s m args below meth c H locs 0 0 QQ (F0 m pc ls [])) (K13 : Int32 → Int32 → VV → Prop) (hK13 : ∀ (a1 : Int32) (a2 : Int32) (v : VV) (H : Heap) (locs : List Loc) (ls : Array Slot), K13 a1 a2 v → lv_has ls 5 [(0, .ref (base + 816)), (1, .int a1), (2, .int a2)] → va_P (dC, dI) vwCl (Wd base cy rf v 874) H → va_S (fun q => base ≤ q) s.heap H locs → W p l e { frames := 1, cells := 0, slots := 0, locals := 20 } s m args below meth c H locs 0 0 QQ (F0 m 13 ls [])) : ∀ (fu : Nat) (a1 : Int32) (a2 : Int32) (a3 : Int32) (a4 : Int32) (v : VV) (H : Heap) (locs : List Loc) (ls : Array Slot), b_X10_putBehind_136 p1 Q K13 fu a1 a2 a3 a4 v → lv_has ls 5 [(0, .ref (base + 816)), (1, .int a1), (2, .int a2), (3, .int a3), (4, .int a4)] → va_P (dC, dI) vwCl (Wd base cy rf v 874) H → va_S (fun q => base ≤ q) s.heap H locs → W p l e { frames := 1, cells := 0, slots := 0, locals := 20 } s m args below meth c H locs 0 0 QQ (F0 m 136 ls []) := by
  intro fu
  induction fu with
  | zero =>
    intro a1 a2 a3 a4 v H locs ls hw hl hP hS
    exact hw.elim
  | succ fu ih =>
    intro a1 a2 a3 a4 v H locs ls hw hl hP hS
    refine lv_iload hx hb dX10_putBehind_136 (lv_at hl 4 rfl) ?_
    refine lv_aload_n hx hb dX10_putBehind_138 rfl (lv_at hl 0 rfl) ?_
    refine w_gR (C := RX10) (T := TX10) (N := 64) (ci := 10) hx hb hts in10 hown hK hP 35 th10.1 th10 rfl (by decide) (ch10_35 th10).1 (hts _ mf_X10_113) dX10_putBehind_139 ?_
    refine lv_iload_n hx hb dX10_putBehind_142 rfl (lv_at hl 1 rfl) ?_
    obtain ⟨hi1, hw⟩ := hw
    refine w_ia (N := 2) hx hb hK hP (ch10_35 th10).2.1.1 (ch10_35 th10).2.1 (ch10_35 th10).2.2 hi1 dX10_putBehind_143 ?_
    refine lv_topi (fun x143 ex143 => ?_)
    have hw := hw x143 ex143
    refine lv_icmp_ge (tgt := 193) hx hb dX10_putBehind_144 (by decide) (fun c144 => ?_) (fun c144 => ?_)
    · have hw := hw.1 c144
      refine lv_aload_n hx hb dX10_putBehind_193 rfl (lv_at hl 0 rfl) ?_
      refine w_gR (C := RX10) (T := TX10) (N := 64) (ci := 10) hx hb hts in10 hown hK hP 38 th10.1 th10 rfl (by decide) (ch10_38 th10).1 (hts _ mf_X10_122) dX10_putBehind_194 ?_
      refine lv_iload_n hx hb dX10_putBehind_197 rfl (lv_at hl 1 rfl) ?_
      refine lv_dup2_11 hx hb dX10_putBehind_198 rfl rfl ?_
      obtain ⟨hi2, hw⟩ := hw
      refine w_ia (N := 2) hx hb hK hP (ch10_38 th10).2.1.1 (ch10_38 th10).2.1 (ch10_38 th10).2.2 hi2 dX10_putBehind_199 ?_
      refine lv_topi (fun x199 ex199 => ?_)
      have hw := hw x199 ex199
      refine lv_iconst (v := 1) hx hb dX10_putBehind_200 (by decide) ?_
      refine lv_iadd hx hb dX10_putBehind_201 ?_
      refine lv_topi (fun x201 ex201 => ?_)
      have hw := hw x201 ex201
      obtain ⟨hi4, hw⟩ := hw
      refine w_is (N := 2) hx hb hK hP hS (ch10_38 th10).2.1.1 (ch10_38 th10).2.1 (ch10_38 th10).2.2 hi4 dX10_putBehind_202 (fun v3 H locs hv3 hP hz hS => ?_)
      have hw := hw v3 hv3
      refine lv_aload_n hx hb dX10_putBehind_203 rfl (lv_at hl 0 rfl) ?_
      refine w_gR (C := RX10) (T := TX10) (N := 64) (ci := 10) hx hb hts in10 hown hK hP 35 th10.1 th10 rfl (by decide) (ch10_35 th10).1 (hts _ mf_X10_113) dX10_putBehind_204 ?_
      refine lv_iload_n hx hb dX10_putBehind_207 rfl (lv_at hl 1 rfl) ?_
      refine lv_iconst (v := 0) hx hb dX10_putBehind_208 (by decide) ?_
      obtain ⟨hi6, hw⟩ := hw
      refine w_is (N := 2) hx hb hK hP hS (ch10_35 th10).2.1.1 (ch10_35 th10).2.1 (ch10_35 th10).2.2 hi6 dX10_putBehind_209 (fun v5 H locs hv5 hP hz hS => ?_)
      have hw := hw v5 hv5
      refine lv_aload_n hx hb dX10_putBehind_210 rfl (lv_at hl 0 rfl) ?_
      refine w_gR (C := RX10) (T := TX10) (N := 64) (ci := 10) hx hb hts in10 hown hK hP 36 th10.1 th10 rfl (by decide) (ch10_36 th10).1 (hts _ mf_X10_116) dX10_putBehind_211 ?_
      refine lv_iload_n hx hb dX10_putBehind_214 rfl (lv_at hl 1 rfl) ?_
      refine lv_iconst (v := 0) hx hb dX10_putBehind_215 (by decide) ?_
      obtain ⟨hi8, hw⟩ := hw
      refine w_is (N := 2) hx hb hK hP hS (ch10_36 th10).2.1.1 (ch10_36 th10).2.1 (ch10_36 th10).2.2 hi8 dX10_putBehind_216 (fun v7 H locs hv7 hP hz hS => ?_)
      have hw := hw v7 hv7
      exact tb_X10_putBehind_217 hx hb hml hown hts hK p1 _ hret K13 hK13 a1 a2 a3 v7 _ _ _ hw (lv_sub hl [0, 1, 2, 3] rfl) hP hS
    · have hw := hw.2 c144
      refine lv_aload_n hx hb dX10_putBehind_147 rfl (lv_at hl 0 rfl) ?_
      refine w_gR (C := RX10) (T := TX10) (N := 64) (ci := 10) hx hb hts in10 hown hK hP 41 th10.1 th10 rfl (by decide) (ch10_41 th10).1 (hts _ mf_X10_131) dX10_putBehind_148 ?_
      refine lv_sipush (v := 8192) hx hb dX10_putBehind_151 (by decide) ?_
      refine lv_iload_n hx hb dX10_putBehind_154 rfl (lv_at hl 1 rfl) ?_
      refine lv_imul hx hb dX10_putBehind_155 ?_
      refine lv_topi (fun x155 ex155 => ?_)
      have hw := hw x155 ex155
      refine lv_aload_n hx hb dX10_putBehind_156 rfl (lv_at hl 0 rfl) ?_
      refine w_gR (C := RX10) (T := TX10) (N := 64) (ci := 10) hx hb hts in10 hown hK hP 42 th10.1 th10 rfl (by decide) (ch10_42 th10).1 (hts _ mf_X10_134) dX10_putBehind_157 ?_
      refine lv_iload_n hx hb dX10_putBehind_160 rfl (lv_at hl 1 rfl) ?_
      obtain ⟨hi9, hw⟩ := hw
      refine w_ia (N := 2) hx hb hK hP (ch10_42 th10).2.1.1 (ch10_42 th10).2.1 (ch10_42 th10).2.2 hi9 dX10_putBehind_161 ?_
      refine lv_topi (fun x161 ex161 => ?_)
      have hw := hw x161 ex161
      refine lv_iadd hx hb dX10_putBehind_162 ?_
      refine lv_topi (fun x162 ex162 => ?_)
      have hw := hw x162 ex162
      refine lv_aload_n hx hb dX10_putBehind_163 rfl (lv_at hl 0 rfl) ?_
      refine w_gR (C := RX10) (T := TX10) (N := 64) (ci := 10) hx hb hts in10 hown hK hP 37 th10.1 th10 rfl (by decide) (ch10_37 th10).1 (hts _ mf_X10_119) dX10_putBehind_164 ?_
      refine lv_sipush (v := 4096) hx hb dX10_putBehind_167 (by decide) ?_
      refine lv_iload_n hx hb dX10_putBehind_170 rfl (lv_at hl 1 rfl) ?_
      refine lv_imul hx hb dX10_putBehind_171 ?_
      refine lv_topi (fun x171 ex171 => ?_)
      have hw := hw x171 ex171
      refine lv_iload hx hb dX10_putBehind_172 (lv_at hl 4 rfl) ?_
      refine lv_iadd hx hb dX10_putBehind_174 ?_
      refine lv_topi (fun x174 ex174 => ?_)
      have hw := hw x174 ex174
      obtain ⟨hi10, hw⟩ := hw
      refine w_ia (N := 8192) hx hb hK hP (ch10_37 th10).2.1.1 (ch10_37 th10).2.1 (ch10_37 th10).2.2 hi10 dX10_putBehind_175 ?_
      refine lv_topi (fun x175 ex175 => ?_)
      have hw := hw x175 ex175
      obtain ⟨hi12, hw⟩ := hw
      refine w_is (N := 16384) hx hb hK hP hS (ch10_41 th10).2.1.1 (ch10_41 th10).2.1 (ch10_41 th10).2.2 hi12 dX10_putBehind_176 (fun v11 H locs hv11 hP hz hS => ?_)
      have hw := hw v11 hv11
      refine lv_aload_n hx hb dX10_putBehind_177 rfl (lv_at hl 0 rfl) ?_
      refine w_gR (C := RX10) (T := TX10) (N := 64) (ci := 10) hx hb hts in10 hown hK hP 42 th10.1 th10 rfl (by decide) (ch10_42 th10).1 (hts _ mf_X10_134) dX10_putBehind_178 ?_
      refine lv_iload_n hx hb dX10_putBehind_181 rfl (lv_at hl 1 rfl) ?_
      refine lv_dup2_11 hx hb dX10_putBehind_182 rfl rfl ?_
      obtain ⟨hi13, hw⟩ := hw
      refine w_ia (N := 2) hx hb hK hP (ch10_42 th10).2.1.1 (ch10_42 th10).2.1 (ch10_42 th10).2.2 hi13 dX10_putBehind_183 ?_
      refine lv_topi (fun x183 ex183 => ?_)
      have hw := hw x183 ex183
      refine lv_iconst (v := 1) hx hb dX10_putBehind_184 (by decide) ?_
      refine lv_iadd hx hb dX10_putBehind_185 ?_
      refine lv_topi (fun x185 ex185 => ?_)
      have hw := hw x185 ex185
      obtain ⟨hi15, hw⟩ := hw
      refine w_is (N := 2) hx hb hK hP hS (ch10_42 th10).2.1.1 (ch10_42 th10).2.1 (ch10_42 th10).2.2 hi15 dX10_putBehind_186 (fun v14 H locs hv14 hP hz hS => ?_)
      have hw := hw v14 hv14
      obtain ⟨x187, ex187⟩ : ∃ y : Int32, y = a4 + 1 := ⟨_, rfl⟩
      have hw := hw x187 ex187
      refine lv_iinc (v := x187) (lv' := [(4, .int x187), (0, .ref (base + 816)), (1, .int a1), (2, .int a2), (3, .int a3)]) hx hb dX10_putBehind_187 hl (k := 4) rfl (by rw [ex187]; first | rfl | (rw [show Int32.ofInt (-1) = (-1 : Int32) from by decide])) (by decide) rfl (fun ls hl => ?_)
      refine lv_goto (tgt := 136) hx hb dX10_putBehind_190 (by decide) ?_
      exact ih a1 a2 a3 x187 v14 _ _ _ hw (lv_sub hl [1, 2, 3, 4, 0] rfl) hP hS
def b_X10_putBehind_24 (p1 : Int32) (Q : VV → Prop) (K13 : Int32 → Int32 → VV → Prop) (fu : Nat) : Int32 → Int32 → Int32 → VV → Prop :=
  Nat.rec (motive := fun _ => Int32 → Int32 → Int32 → VV → Prop) (fun _ _ _ _ => False) (fun _ ih a1 a2 a3 v => vp_in a2 256 ∧ ∀ x30 : Int32, x30 = v 848 (Int32.toNatClampNeg a2) → (x30 ≤ a3 → vp_in a1 2 ∧ ∀ x84 : Int32, x84 = v 852 (Int32.toNatClampNeg a1) → ∀ x86 : Int32, x86 = x84 + 1 → vp_in a1 2 ∧ ∀ v3 : VV, v3 = up2 v 852 (Int32.toNatClampNeg a1) x86 → vp_in a2 256 ∧ ∀ x93 : Int32, x93 = v3 849 (Int32.toNatClampNeg a2) → (x93 = 0 → b_X10_putBehind_217 p1 Q K13 a1 a2 a3 v3) ∧ (¬ x93 = 0 → ∀ x100 : Int32, x100 = 64 * a1 → vp_in a1 2 ∧ ∀ x106 : Int32, x106 = v3 854 (Int32.toNatClampNeg a1) → ∀ x107 : Int32, x107 = x100 + x106 → vp_in a1 2 ∧ ∀ x119 : Int32, x119 = v3 851 (Int32.toNatClampNeg a1) → vp_in x107 128 ∧ ∀ v8 : VV, v8 = up2 v3 855 (Int32.toNatClampNeg x107) x119 → vp_in a1 2 ∧ ∀ x131 : Int32, x131 = v8 852 (Int32.toNatClampNeg a1) → vp_in x107 128 ∧ ∀ v11 : VV, v11 = up2 v8 856 (Int32.toNatClampNeg x107) x131 → ∃ fu : Nat, b_X10_putBehind_136 p1 Q K13 fu a1 a2 x107 0 v11)) ∧ (¬ x30 ≤ a3 → ∀ x42 : Int32, x42 = 4096 * a1 → vp_in a1 2 ∧ ∀ x48 : Int32, x48 = v 851 (Int32.toNatClampNeg a1) → ∀ x49 : Int32, x49 = x42 + x48 → ∀ x57 : Int32, x57 = 8 * a2 → ∀ x59 : Int32, x59 = x57 + a3 → vp_in x59 2048 ∧ ∀ x60 : Int32, x60 = v 850 (Int32.toNatClampNeg x59) → vp_in x49 8192 ∧ ∀ v15 : VV, v15 = up2 v 853 (Int32.toNatClampNeg x49) x60 → vp_in a1 2 ∧ ∀ x68 : Int32, x68 = v15 851 (Int32.toNatClampNeg a1) → ∀ x70 : Int32, x70 = x68 + 1 → vp_in a1 2 ∧ ∀ v18 : VV, v18 = up2 v15 851 (Int32.toNatClampNeg a1) x70 → ∀ x72 : Int32, x72 = a3 + 1 → ih a1 a2 x72 v18)) fu
set_option maxHeartbeats 4000000 in
set_option maxRecDepth 100000 in
theorem tb_X10_putBehind_24 {p : Program} {l : Launch} {e : Env} {s : State} {m : MethodId} {args : Array Value} {below : List Frame} {meth : Method} {c : Code} {QQ : State → Prop} {dC : Nat → ClassId} {dI : Nat → Nat → Nat} {base : Nat} {cy : Nat → ClassId} (hx : p.tables.exec = Jvm.exec) (hb : c.code = cX10_putBehind) (hml : c.maxLocals = 5) (hown : s.vm.findClass RX10 = some m.cls) (hts : ∀ w ∈ TB, w.before args s = true) (hK : va_K (dC, dI) vwCl (tyL cy) s) (p1 : Int32) (Q : VV → Prop) (hret : ∀ (pc : Nat) (v : VV) (H : Heap) (locs : List Loc) (ls : Array Slot), decode cX10_putBehind pc = .ok (.return_, 1) → Q v → va_P (dC, dI) vwCl (Wd base cy rf v 874) H → va_S (fun q => base ≤ q) s.heap H locs → W p l e { frames := 1, cells := 0, slots := 0, locals := 20 } s m args below meth c H locs 0 0 QQ (F0 m pc ls [])) (K13 : Int32 → Int32 → VV → Prop) (hK13 : ∀ (a1 : Int32) (a2 : Int32) (v : VV) (H : Heap) (locs : List Loc) (ls : Array Slot), K13 a1 a2 v → lv_has ls 5 [(0, .ref (base + 816)), (1, .int a1), (2, .int a2)] → va_P (dC, dI) vwCl (Wd base cy rf v 874) H → va_S (fun q => base ≤ q) s.heap H locs → W p l e { frames := 1, cells := 0, slots := 0, locals := 20 } s m args below meth c H locs 0 0 QQ (F0 m 13 ls [])) : ∀ (fu : Nat) (a1 : Int32) (a2 : Int32) (a3 : Int32) (v : VV) (H : Heap) (locs : List Loc) (ls : Array Slot), b_X10_putBehind_24 p1 Q K13 fu a1 a2 a3 v → lv_has ls 5 [(0, .ref (base + 816)), (1, .int a1), (2, .int a2), (3, .int a3)] → va_P (dC, dI) vwCl (Wd base cy rf v 874) H → va_S (fun q => base ≤ q) s.heap H locs → W p l e { frames := 1, cells := 0, slots := 0, locals := 20 } s m args below meth c H locs 0 0 QQ (F0 m 24 ls []) := by
  intro fu
  induction fu with
  | zero =>
    intro a1 a2 a3 v H locs ls hw hl hP hS
    exact hw.elim
  | succ fu ih =>
    intro a1 a2 a3 v H locs ls hw hl hP hS
    refine lv_iload_n hx hb dX10_putBehind_24 rfl (lv_at hl 3 rfl) ?_
    refine lv_aload_n hx hb dX10_putBehind_25 rfl (lv_at hl 0 rfl) ?_
    refine w_gR (C := RX10) (T := TX10) (N := 64) (ci := 10) hx hb hts in10 hown hK hP 32 th10.1 th10 rfl (by decide) (ch10_32 th10).1 (hts _ mf_X10_104) dX10_putBehind_26 ?_
    refine lv_iload_n hx hb dX10_putBehind_29 rfl (lv_at hl 2 rfl) ?_
    obtain ⟨hi1, hw⟩ := hw
    refine w_ia (N := 256) hx hb hK hP (ch10_32 th10).2.1.1 (ch10_32 th10).2.1 (ch10_32 th10).2.2 hi1 dX10_putBehind_30 ?_
    refine lv_topi (fun x30 ex30 => ?_)
    have hw := hw x30 ex30
    refine lv_icmp_ge (tgt := 78) hx hb dX10_putBehind_31 (by decide) (fun c31 => ?_) (fun c31 => ?_)
    · have hw := hw.1 c31
      refine lv_aload_n hx hb dX10_putBehind_78 rfl (lv_at hl 0 rfl) ?_
      refine w_gR (C := RX10) (T := TX10) (N := 64) (ci := 10) hx hb hts in10 hown hK hP 36 th10.1 th10 rfl (by decide) (ch10_36 th10).1 (hts _ mf_X10_116) dX10_putBehind_79 ?_
      refine lv_iload_n hx hb dX10_putBehind_82 rfl (lv_at hl 1 rfl) ?_
      refine lv_dup2_11 hx hb dX10_putBehind_83 rfl rfl ?_
      obtain ⟨hi2, hw⟩ := hw
      refine w_ia (N := 2) hx hb hK hP (ch10_36 th10).2.1.1 (ch10_36 th10).2.1 (ch10_36 th10).2.2 hi2 dX10_putBehind_84 ?_
      refine lv_topi (fun x84 ex84 => ?_)
      have hw := hw x84 ex84
      refine lv_iconst (v := 1) hx hb dX10_putBehind_85 (by decide) ?_
      refine lv_iadd hx hb dX10_putBehind_86 ?_
      refine lv_topi (fun x86 ex86 => ?_)
      have hw := hw x86 ex86
      obtain ⟨hi4, hw⟩ := hw
      refine w_is (N := 2) hx hb hK hP hS (ch10_36 th10).2.1.1 (ch10_36 th10).2.1 (ch10_36 th10).2.2 hi4 dX10_putBehind_87 (fun v3 H locs hv3 hP hz hS => ?_)
      have hw := hw v3 hv3
      refine lv_aload_n hx hb dX10_putBehind_88 rfl (lv_at hl 0 rfl) ?_
      refine w_gR (C := RX10) (T := TX10) (N := 64) (ci := 10) hx hb hts in10 hown hK hP 33 th10.1 th10 rfl (by decide) (ch10_33 th10).1 (hts _ mf_X10_107) dX10_putBehind_89 ?_
      refine lv_iload_n hx hb dX10_putBehind_92 rfl (lv_at hl 2 rfl) ?_
      obtain ⟨hi5, hw⟩ := hw
      refine w_za (N := 256) hx hb hK hP (ch10_33 th10).2.1.1 (ch10_33 th10).2.1 (ch10_33 th10).2.2 hi5 dX10_putBehind_93 ?_
      refine lv_topi (fun x93 ex93 => ?_)
      have hw := hw x93 ex93
      refine lv_if_eq (tgt := 217) hx hb dX10_putBehind_94 (by decide) (fun c94 => ?_) (fun c94 => ?_)
      · have hw := hw.1 c94
        exact tb_X10_putBehind_217 hx hb hml hown hts hK p1 _ hret K13 hK13 a1 a2 a3 v3 _ _ _ hw (lv_sub hl [0, 1, 2, 3] rfl) hP hS
      · have hw := hw.2 c94
        refine lv_bipush (v := 64) hx hb dX10_putBehind_97 (by decide) ?_
        refine lv_iload_n hx hb dX10_putBehind_99 rfl (lv_at hl 1 rfl) ?_
        refine lv_imul hx hb dX10_putBehind_100 ?_
        refine lv_topi (fun x100 ex100 => ?_)
        have hw := hw x100 ex100
        refine lv_aload_n hx hb dX10_putBehind_101 rfl (lv_at hl 0 rfl) ?_
        refine w_gR (C := RX10) (T := TX10) (N := 64) (ci := 10) hx hb hts in10 hown hK hP 38 th10.1 th10 rfl (by decide) (ch10_38 th10).1 (hts _ mf_X10_122) dX10_putBehind_102 ?_
        refine lv_iload_n hx hb dX10_putBehind_105 rfl (lv_at hl 1 rfl) ?_
        obtain ⟨hi6, hw⟩ := hw
        refine w_ia (N := 2) hx hb hK hP (ch10_38 th10).2.1.1 (ch10_38 th10).2.1 (ch10_38 th10).2.2 hi6 dX10_putBehind_106 ?_
        refine lv_topi (fun x106 ex106 => ?_)
        have hw := hw x106 ex106
        refine lv_iadd hx hb dX10_putBehind_107 ?_
        refine lv_topi (fun x107 ex107 => ?_)
        have hw := hw x107 ex107
        refine lv_istore_n (lv' := [(3, .int x107), (0, .ref (base + 816)), (1, .int a1), (2, .int a2)]) hx hb dX10_putBehind_108 rfl hl (by decide) rfl (fun ls hl => ?_)
        refine lv_aload_n hx hb dX10_putBehind_109 rfl (lv_at hl 1 rfl) ?_
        refine w_gR (C := RX10) (T := TX10) (N := 64) (ci := 10) hx hb hts in10 hown hK hP 39 th10.1 th10 rfl (by decide) (ch10_39 th10).1 (hts _ mf_X10_125) dX10_putBehind_110 ?_
        refine lv_iload_n hx hb dX10_putBehind_113 rfl (lv_at hl 0 rfl) ?_
        refine lv_aload_n hx hb dX10_putBehind_114 rfl (lv_at hl 1 rfl) ?_
        refine w_gR (C := RX10) (T := TX10) (N := 64) (ci := 10) hx hb hts in10 hown hK hP 35 th10.1 th10 rfl (by decide) (ch10_35 th10).1 (hts _ mf_X10_113) dX10_putBehind_115 ?_
        refine lv_iload_n hx hb dX10_putBehind_118 rfl (lv_at hl 2 rfl) ?_
        obtain ⟨hi7, hw⟩ := hw
        refine w_ia (N := 2) hx hb hK hP (ch10_35 th10).2.1.1 (ch10_35 th10).2.1 (ch10_35 th10).2.2 hi7 dX10_putBehind_119 ?_
        refine lv_topi (fun x119 ex119 => ?_)
        have hw := hw x119 ex119
        obtain ⟨hi9, hw⟩ := hw
        refine w_is (N := 128) hx hb hK hP hS (ch10_39 th10).2.1.1 (ch10_39 th10).2.1 (ch10_39 th10).2.2 hi9 dX10_putBehind_120 (fun v8 H locs hv8 hP hz hS => ?_)
        have hw := hw v8 hv8
        refine lv_aload_n hx hb dX10_putBehind_121 rfl (lv_at hl 1 rfl) ?_
        refine w_gR (C := RX10) (T := TX10) (N := 64) (ci := 10) hx hb hts in10 hown hK hP 40 th10.1 th10 rfl (by decide) (ch10_40 th10).1 (hts _ mf_X10_128) dX10_putBehind_122 ?_
        refine lv_iload_n hx hb dX10_putBehind_125 rfl (lv_at hl 0 rfl) ?_
        refine lv_aload_n hx hb dX10_putBehind_126 rfl (lv_at hl 1 rfl) ?_
        refine w_gR (C := RX10) (T := TX10) (N := 64) (ci := 10) hx hb hts in10 hown hK hP 36 th10.1 th10 rfl (by decide) (ch10_36 th10).1 (hts _ mf_X10_116) dX10_putBehind_127 ?_
        refine lv_iload_n hx hb dX10_putBehind_130 rfl (lv_at hl 2 rfl) ?_
        obtain ⟨hi10, hw⟩ := hw
        refine w_ia (N := 2) hx hb hK hP (ch10_36 th10).2.1.1 (ch10_36 th10).2.1 (ch10_36 th10).2.2 hi10 dX10_putBehind_131 ?_
        refine lv_topi (fun x131 ex131 => ?_)
        have hw := hw x131 ex131
        obtain ⟨hi12, hw⟩ := hw
        refine w_is (N := 128) hx hb hK hP hS (ch10_40 th10).2.1.1 (ch10_40 th10).2.1 (ch10_40 th10).2.2 hi12 dX10_putBehind_132 (fun v11 H locs hv11 hP hz hS => ?_)
        have hw := hw v11 hv11
        refine lv_iconst (v := 0) hx hb dX10_putBehind_133 (by decide) ?_
        refine lv_istore (lv' := [(4, .int 0), (3, .int x107), (0, .ref (base + 816)), (1, .int a1), (2, .int a2)]) hx hb dX10_putBehind_134 hl (by decide) rfl (fun ls hl => ?_)
        obtain ⟨fu, hw⟩ := hw
        exact tb_X10_putBehind_136 hx hb hml hown hts hK p1 _ hret K13 hK13 fu a1 a2 x107 0 v11 _ _ _ hw (lv_sub hl [2, 3, 4, 1, 0] rfl) hP hS
    · have hw := hw.2 c31
      refine lv_aload_n hx hb dX10_putBehind_34 rfl (lv_at hl 0 rfl) ?_
      refine w_gR (C := RX10) (T := TX10) (N := 64) (ci := 10) hx hb hts in10 hown hK hP 37 th10.1 th10 rfl (by decide) (ch10_37 th10).1 (hts _ mf_X10_119) dX10_putBehind_35 ?_
      refine lv_sipush (v := 4096) hx hb dX10_putBehind_38 (by decide) ?_
      refine lv_iload_n hx hb dX10_putBehind_41 rfl (lv_at hl 1 rfl) ?_
      refine lv_imul hx hb dX10_putBehind_42 ?_
      refine lv_topi (fun x42 ex42 => ?_)
      have hw := hw x42 ex42
      refine lv_aload_n hx hb dX10_putBehind_43 rfl (lv_at hl 0 rfl) ?_
      refine w_gR (C := RX10) (T := TX10) (N := 64) (ci := 10) hx hb hts in10 hown hK hP 35 th10.1 th10 rfl (by decide) (ch10_35 th10).1 (hts _ mf_X10_113) dX10_putBehind_44 ?_
      refine lv_iload_n hx hb dX10_putBehind_47 rfl (lv_at hl 1 rfl) ?_
      obtain ⟨hi13, hw⟩ := hw
      refine w_ia (N := 2) hx hb hK hP (ch10_35 th10).2.1.1 (ch10_35 th10).2.1 (ch10_35 th10).2.2 hi13 dX10_putBehind_48 ?_
      refine lv_topi (fun x48 ex48 => ?_)
      have hw := hw x48 ex48
      refine lv_iadd hx hb dX10_putBehind_49 ?_
      refine lv_topi (fun x49 ex49 => ?_)
      have hw := hw x49 ex49
      refine lv_aload_n hx hb dX10_putBehind_50 rfl (lv_at hl 0 rfl) ?_
      refine w_gR (C := RX10) (T := TX10) (N := 64) (ci := 10) hx hb hts in10 hown hK hP 34 th10.1 th10 rfl (by decide) (ch10_34 th10).1 (hts _ mf_X10_110) dX10_putBehind_51 ?_
      refine lv_bipush (v := 8) hx hb dX10_putBehind_54 (by decide) ?_
      refine lv_iload_n hx hb dX10_putBehind_56 rfl (lv_at hl 2 rfl) ?_
      refine lv_imul hx hb dX10_putBehind_57 ?_
      refine lv_topi (fun x57 ex57 => ?_)
      have hw := hw x57 ex57
      refine lv_iload_n hx hb dX10_putBehind_58 rfl (lv_at hl 3 rfl) ?_
      refine lv_iadd hx hb dX10_putBehind_59 ?_
      refine lv_topi (fun x59 ex59 => ?_)
      have hw := hw x59 ex59
      obtain ⟨hi14, hw⟩ := hw
      refine w_ia (N := 2048) hx hb hK hP (ch10_34 th10).2.1.1 (ch10_34 th10).2.1 (ch10_34 th10).2.2 hi14 dX10_putBehind_60 ?_
      refine lv_topi (fun x60 ex60 => ?_)
      have hw := hw x60 ex60
      obtain ⟨hi16, hw⟩ := hw
      refine w_is (N := 8192) hx hb hK hP hS (ch10_37 th10).2.1.1 (ch10_37 th10).2.1 (ch10_37 th10).2.2 hi16 dX10_putBehind_61 (fun v15 H locs hv15 hP hz hS => ?_)
      have hw := hw v15 hv15
      refine lv_aload_n hx hb dX10_putBehind_62 rfl (lv_at hl 0 rfl) ?_
      refine w_gR (C := RX10) (T := TX10) (N := 64) (ci := 10) hx hb hts in10 hown hK hP 35 th10.1 th10 rfl (by decide) (ch10_35 th10).1 (hts _ mf_X10_113) dX10_putBehind_63 ?_
      refine lv_iload_n hx hb dX10_putBehind_66 rfl (lv_at hl 1 rfl) ?_
      refine lv_dup2_11 hx hb dX10_putBehind_67 rfl rfl ?_
      obtain ⟨hi17, hw⟩ := hw
      refine w_ia (N := 2) hx hb hK hP (ch10_35 th10).2.1.1 (ch10_35 th10).2.1 (ch10_35 th10).2.2 hi17 dX10_putBehind_68 ?_
      refine lv_topi (fun x68 ex68 => ?_)
      have hw := hw x68 ex68
      refine lv_iconst (v := 1) hx hb dX10_putBehind_69 (by decide) ?_
      refine lv_iadd hx hb dX10_putBehind_70 ?_
      refine lv_topi (fun x70 ex70 => ?_)
      have hw := hw x70 ex70
      obtain ⟨hi19, hw⟩ := hw
      refine w_is (N := 2) hx hb hK hP hS (ch10_35 th10).2.1.1 (ch10_35 th10).2.1 (ch10_35 th10).2.2 hi19 dX10_putBehind_71 (fun v18 H locs hv18 hP hz hS => ?_)
      have hw := hw v18 hv18
      obtain ⟨x72, ex72⟩ : ∃ y : Int32, y = a3 + 1 := ⟨_, rfl⟩
      have hw := hw x72 ex72
      refine lv_iinc (v := x72) (lv' := [(3, .int x72), (0, .ref (base + 816)), (1, .int a1), (2, .int a2)]) hx hb dX10_putBehind_72 hl (k := 3) rfl (by rw [ex72]; first | rfl | (rw [show Int32.ofInt (-1) = (-1 : Int32) from by decide])) (by decide) rfl (fun ls hl => ?_)
      refine lv_goto (tgt := 24) hx hb dX10_putBehind_75 (by decide) ?_
      exact ih a1 a2 x72 v18 _ _ _ hw (lv_sub hl [1, 2, 3, 0] rfl) hP hS
def b_X10_putBehind_13 (p1 : Int32) (Q : VV → Prop) (fu : Nat) : Int32 → Int32 → VV → Prop :=
  Nat.rec (motive := fun _ => Int32 → Int32 → VV → Prop) (fun _ _ _ => False) (fun _ ih a1 a2 v => vp_in a2 256 ∧ ∀ x18 : Int32, x18 = v 848 (Int32.toNatClampNeg a2) → (x18 < 0 → Q v) ∧ (¬ x18 < 0 → ∃ fu : Nat, b_X10_putBehind_24 p1 Q ih fu a1 a2 0 v)) fu
set_option maxHeartbeats 4000000 in
set_option maxRecDepth 100000 in
theorem tb_X10_putBehind_13 {p : Program} {l : Launch} {e : Env} {s : State} {m : MethodId} {args : Array Value} {below : List Frame} {meth : Method} {c : Code} {QQ : State → Prop} {dC : Nat → ClassId} {dI : Nat → Nat → Nat} {base : Nat} {cy : Nat → ClassId} (hx : p.tables.exec = Jvm.exec) (hb : c.code = cX10_putBehind) (hml : c.maxLocals = 5) (hown : s.vm.findClass RX10 = some m.cls) (hts : ∀ w ∈ TB, w.before args s = true) (hK : va_K (dC, dI) vwCl (tyL cy) s) (p1 : Int32) (Q : VV → Prop) (hret : ∀ (pc : Nat) (v : VV) (H : Heap) (locs : List Loc) (ls : Array Slot), decode cX10_putBehind pc = .ok (.return_, 1) → Q v → va_P (dC, dI) vwCl (Wd base cy rf v 874) H → va_S (fun q => base ≤ q) s.heap H locs → W p l e { frames := 1, cells := 0, slots := 0, locals := 20 } s m args below meth c H locs 0 0 QQ (F0 m pc ls [])) : ∀ (fu : Nat) (a1 : Int32) (a2 : Int32) (v : VV) (H : Heap) (locs : List Loc) (ls : Array Slot), b_X10_putBehind_13 p1 Q  fu a1 a2 v → lv_has ls 5 [(0, .ref (base + 816)), (1, .int a1), (2, .int a2)] → va_P (dC, dI) vwCl (Wd base cy rf v 874) H → va_S (fun q => base ≤ q) s.heap H locs → W p l e { frames := 1, cells := 0, slots := 0, locals := 20 } s m args below meth c H locs 0 0 QQ (F0 m 13 ls []) := by
  intro fu
  induction fu with
  | zero =>
    intro a1 a2 v H locs ls hw hl hP hS
    exact hw.elim
  | succ fu ih =>
    intro a1 a2 v H locs ls hw hl hP hS
    refine lv_aload_n hx hb dX10_putBehind_13 rfl (lv_at hl 0 rfl) ?_
    refine w_gR (C := RX10) (T := TX10) (N := 64) (ci := 10) hx hb hts in10 hown hK hP 32 th10.1 th10 rfl (by decide) (ch10_32 th10).1 (hts _ mf_X10_104) dX10_putBehind_14 ?_
    refine lv_iload_n hx hb dX10_putBehind_17 rfl (lv_at hl 2 rfl) ?_
    obtain ⟨hi1, hw⟩ := hw
    refine w_ia (N := 256) hx hb hK hP (ch10_32 th10).2.1.1 (ch10_32 th10).2.1 (ch10_32 th10).2.2 hi1 dX10_putBehind_18 ?_
    refine lv_topi (fun x18 ex18 => ?_)
    have hw := hw x18 ex18
    refine lv_if_lt (tgt := 257) hx hb dX10_putBehind_19 (by decide) (fun c19 => ?_) (fun c19 => ?_)
    · have hw := hw.1 c19
      exact hret _ _ _ _ _ dX10_putBehind_257 hw hP hS
    · have hw := hw.2 c19
      refine lv_iconst (v := 0) hx hb dX10_putBehind_22 (by decide) ?_
      refine lv_istore_n (lv' := [(3, .int 0), (0, .ref (base + 816)), (1, .int a1), (2, .int a2)]) hx hb dX10_putBehind_23 rfl hl (by decide) rfl (fun ls hl => ?_)
      obtain ⟨fu, hw⟩ := hw
      exact tb_X10_putBehind_24 hx hb hml hown hts hK p1 _ hret _ ih fu a1 a2 0 v _ _ _ hw (lv_sub hl [1, 2, 3, 0] rfl) hP hS
def w_X10_putBehind (p1 : Int32) (v : VV) (Q : VV → Prop) : Prop :=
  ∀ x4 : Int32, x4 = 128 * p1 → vp_in p1 2 ∧ ∀ x10 : Int32, x10 = v 846 (Int32.toNatClampNeg p1) → ∀ x11 : Int32, x11 = x4 + x10 → ∃ fu : Nat, b_X10_putBehind_13 p1 Q  fu p1 x11 v
set_option maxHeartbeats 4000000 in
set_option maxRecDepth 100000 in
/-- TransportFourModel.putBehind -/
theorem t_X10_putBehind (l : Launch) (dC : Nat → ClassId) (dI : Nat → Nat → Nat) (base : Nat) (cy : Nat → ClassId) (p1 : Int32) (v : VV) (Q : VV → Prop) (hw : w_X10_putBehind p1 v Q) : CV l yX10_putBehind (.code yX10_putBehind cX10_putBehind 5 none :: TB) { frames := 1, cells := 0, slots := 0, locals := 20 } dC dI base cy [.ref (base + 816), .int p1] v Q := by
  refine Met.ofW (cc := cX10_putBehind) (maxL := 5) (ret := none) (by decide) rfl ?_
  intro p e s m args below meth c s₁ B hml hv
  obtain ⟨rfl, hP, hK⟩ := hv
  have hx := B.exec
  have hb := B.bytes
  have hr := B.returns
  have hts0 := atoms_spec (ws := (.code yX10_putBehind cX10_putBehind 5 none :: TB)) B.pre
  have hts : ∀ w ∈ TB, w.before ([.ref (base + 816), .int p1]).toArray s = true := fun w h => hts0 w (List.mem_cons_of_mem _ h)
  have hown : s.vm.findClass RX10 = some m.cls := findClass_of_methodNamed B.named
  have hlocks := B.notSynchronized
  have hS : va_S (fun q => base ≤ q) s.heap s.heap [] := va_S.rf
  have hl := lv_entry ([.ref (base + 816), .int p1]) (n := 5) (Nat.le_of_ble_eq_true rfl)
  rw [lg_entry_eq]
  generalize (lg_sl ([.ref (base + 816), .int p1]) ++ List.replicate (5 - (lg_sl ([.ref (base + 816), .int p1])).length) Slot.unset).toArray = ls at hl ⊢
  have hl : lv_has ls 5 [(0, .ref (base + 816)), (1, .int p1)] := hl
  have hret : ∀ (pc : Nat) (v : VV) (H : Heap) (locs : List Loc) (ls : Array Slot), decode cX10_putBehind pc = .ok (.return_, 1) → Q v → va_P (dC, dI) vwCl (Wd base cy rf v 874) H → va_S (fun q => base ≤ q) s.heap H locs → W p l e { frames := 1, cells := 0, slots := 0, locals := 20 } s m ([.ref (base + 816), .int p1]).toArray below meth c H locs 0 0 (MQ below (va_Qv Q (Hp dC dI base cy) (fun q => base ≤ q)) ([.ref (base + 816), .int p1]).toArray s 0 0 (fun q => base ≤ q)) (F0 m pc ls []) := fun pc v H locs ls hd hq hP hS => W.vret hx hb hr (fun t ht hW => ⟨⟨v, rfl, hq, by rw [ht]; exact hP, va_K.moved hW.alike hK⟩, hS.F ht⟩) hS.2.2 hd
  refine lv_sipush (v := 128) hx hb dX10_putBehind_0 (by decide) ?_
  refine lv_iload_n hx hb dX10_putBehind_3 rfl (lv_at hl 1 rfl) ?_
  refine lv_imul hx hb dX10_putBehind_4 ?_
  refine lv_topi (fun x4 ex4 => ?_)
  have hw := hw x4 ex4
  refine lv_aload_n hx hb dX10_putBehind_5 rfl (lv_at hl 0 rfl) ?_
  refine w_gR (C := RX10) (T := TX10) (N := 64) (ci := 10) hx hb hts in10 hown hK hP 30 th10.1 th10 rfl (by decide) (ch10_30 th10).1 (hts _ mf_X10_98) dX10_putBehind_6 ?_
  refine lv_iload_n hx hb dX10_putBehind_9 rfl (lv_at hl 1 rfl) ?_
  obtain ⟨hi1, hw⟩ := hw
  refine w_ia (N := 2) hx hb hK hP (ch10_30 th10).2.1.1 (ch10_30 th10).2.1 (ch10_30 th10).2.2 hi1 dX10_putBehind_10 ?_
  refine lv_topi (fun x10 ex10 => ?_)
  have hw := hw x10 ex10
  refine lv_iadd hx hb dX10_putBehind_11 ?_
  refine lv_topi (fun x11 ex11 => ?_)
  have hw := hw x11 ex11
  refine lv_istore_n (lv' := [(2, .int x11), (0, .ref (base + 816)), (1, .int p1)]) hx hb dX10_putBehind_12 rfl hl (by decide) rfl (fun ls hl => ?_)
  obtain ⟨fu, hw⟩ := hw
  exact tb_X10_putBehind_13 hx hb hml hown hts hK p1 _ hret  fu p1 x11 v _ _ _ hw (lv_sub hl [1, 2, 0] rfl) hP hS
def b_X10_arriveData_139 (p1 : Int32) (Q : VV → Prop) (a1 : Int32) (a2 : Int32) (a3 : Int32) (v : VV) : Prop :=
  w_X10_sendReceipt a1 v (fun (v1 : VV) => Q v1)
set_option maxHeartbeats 4000000 in
set_option maxRecDepth 100000 in
theorem tb_X10_arriveData_139 {p : Program} {l : Launch} {e : Env} {s : State} {m : MethodId} {args : Array Value} {below : List Frame} {meth : Method} {c : Code} {QQ : State → Prop} {dC : Nat → ClassId} {dI : Nat → Nat → Nat} {base : Nat} {cy : Nat → ClassId} (hx : p.tables.exec = Jvm.exec) (hb : c.code = cX10_arriveData) (hml : c.maxLocals = 5) (hown : s.vm.findClass RX10 = some m.cls) (hts : ∀ w ∈ TB, w.before args s = true) (hK : va_K (dC, dI) vwCl (tyL cy) s) (p1 : Int32) (Q : VV → Prop) (hret : ∀ (pc : Nat) (v : VV) (H : Heap) (locs : List Loc) (ls : Array Slot), decode cX10_arriveData pc = .ok (.return_, 1) → Q v → va_P (dC, dI) vwCl (Wd base cy rf v 874) H → va_S (fun q => base ≤ q) s.heap H locs → W p l e { frames := 4, cells := 0, slots := 0, locals := 88 } s m args below meth c H locs 0 0 QQ (F0 m pc ls [])) (a1 : Int32) (a2 : Int32) (a3 : Int32) (v : VV) (H : Heap) (locs : List Loc) (ls : Array Slot) (hw : b_X10_arriveData_139 p1 Q  a1 a2 a3 v) : lv_has ls 5 [(0, .ref (base + 816)), (1, .int a1), (2, .int a2), (3, .int a3)] → va_P (dC, dI) vwCl (Wd base cy rf v 874) H → va_S (fun q => base ≤ q) s.heap H locs → W p l e { frames := 4, cells := 0, slots := 0, locals := 88 } s m args below meth c H locs 0 0 QQ (F0 m 139 ls []) := by
  intro hl hP hS
  refine lv_aload_n hx hb dX10_arriveData_139 rfl (lv_at hl 0 rfl) ?_
  refine lv_iload_n hx hb dX10_arriveData_140 rfl (lv_at hl 1 rfl) ?_
  refine k_V (As := [.int a1]) (rest := []) ⟨hx, hb, hml, hown, hts⟩ (t_X10_sendReceipt l dC dI base cy a1 v _ hw) (cwV 1 hts (gV ml_X10_271 mi_X10_sendReceipt mx_X10_sendReceipt mn_X10 mo_X10_sendReceipt) rfl rfl rfl (by decide +kernel) ⟨by decide, by decide⟩) hK hP hS th10 (by decide) rfl rfl hl.1 rfl (Nat.le_of_ble_eq_true rfl) dX10_arriveData_141 ⟨Nat.zero_le _, Nat.zero_le _⟩ (fun v1 H locs hw hP hS => ?_)
  exact hret _ _ _ _ _ dX10_arriveData_144 hw hP hS
def b_X10_arriveData_95 (p1 : Int32) (Q : VV → Prop) (fu : Nat) : Int32 → Int32 → Int32 → Int32 → VV → Prop :=
  Nat.rec (motive := fun _ => Int32 → Int32 → Int32 → Int32 → VV → Prop) (fun _ _ _ _ _ => False) (fun _ ih a1 a2 a3 a4 v => vp_in a3 256 ∧ ∀ x102 : Int32, x102 = v 848 (Int32.toNatClampNeg a3) → (x102 ≤ a4 → w_X10_putBehind a1 v (fun (v2 : VV) => b_X10_arriveData_139 p1 Q  a1 a2 a3 v2)) ∧ (¬ x102 ≤ a4 → ∀ x113 : Int32, x113 = 8 * a3 → ∀ x116 : Int32, x116 = x113 + a4 → ∀ x125 : Int32, x125 = 9 + a4 → vp_in x125 20 ∧ ∀ x126 : Int32, x126 = v 872 (Int32.toNatClampNeg x125) → vp_in x116 2048 ∧ ∀ v4 : VV, v4 = up2 v 850 (Int32.toNatClampNeg x116) x126 → ∀ x128 : Int32, x128 = a4 + 1 → ih a1 a2 a3 x128 v4)) fu
set_option maxHeartbeats 4000000 in
set_option maxRecDepth 100000 in
theorem tb_X10_arriveData_95 {p : Program} {l : Launch} {e : Env} {s : State} {m : MethodId} {args : Array Value} {below : List Frame} {meth : Method} {c : Code} {QQ : State → Prop} {dC : Nat → ClassId} {dI : Nat → Nat → Nat} {base : Nat} {cy : Nat → ClassId} (hx : p.tables.exec = Jvm.exec) (hb : c.code = cX10_arriveData) (hml : c.maxLocals = 5) (hown : s.vm.findClass RX10 = some m.cls) (hts : ∀ w ∈ TB, w.before args s = true) (hK : va_K (dC, dI) vwCl (tyL cy) s) (p1 : Int32) (Q : VV → Prop) (hret : ∀ (pc : Nat) (v : VV) (H : Heap) (locs : List Loc) (ls : Array Slot), decode cX10_arriveData pc = .ok (.return_, 1) → Q v → va_P (dC, dI) vwCl (Wd base cy rf v 874) H → va_S (fun q => base ≤ q) s.heap H locs → W p l e { frames := 4, cells := 0, slots := 0, locals := 88 } s m args below meth c H locs 0 0 QQ (F0 m pc ls [])) : ∀ (fu : Nat) (a1 : Int32) (a2 : Int32) (a3 : Int32) (a4 : Int32) (v : VV) (H : Heap) (locs : List Loc) (ls : Array Slot), b_X10_arriveData_95 p1 Q  fu a1 a2 a3 a4 v → lv_has ls 5 [(0, .ref (base + 816)), (1, .int a1), (2, .int a2), (3, .int a3), (4, .int a4)] → va_P (dC, dI) vwCl (Wd base cy rf v 874) H → va_S (fun q => base ≤ q) s.heap H locs → W p l e { frames := 4, cells := 0, slots := 0, locals := 88 } s m args below meth c H locs 0 0 QQ (F0 m 95 ls []) := by
  intro fu
  induction fu with
  | zero =>
    intro a1 a2 a3 a4 v H locs ls hw hl hP hS
    exact hw.elim
  | succ fu ih =>
    intro a1 a2 a3 a4 v H locs ls hw hl hP hS
    refine lv_iload hx hb dX10_arriveData_95 (lv_at hl 4 rfl) ?_
    refine lv_aload_n hx hb dX10_arriveData_97 rfl (lv_at hl 0 rfl) ?_
    refine w_gR (C := RX10) (T := TX10) (N := 64) (ci := 10) hx hb hts in10 hown hK hP 32 th10.1 th10 rfl (by decide) (ch10_32 th10).1 (hts _ mf_X10_104) dX10_arriveData_98 ?_
    refine lv_iload_n hx hb dX10_arriveData_101 rfl (lv_at hl 3 rfl) ?_
    obtain ⟨hi1, hw⟩ := hw
    refine w_ia (N := 256) hx hb hK hP (ch10_32 th10).2.1.1 (ch10_32 th10).2.1 (ch10_32 th10).2.2 hi1 dX10_arriveData_102 ?_
    refine lv_topi (fun x102 ex102 => ?_)
    have hw := hw x102 ex102
    refine lv_icmp_ge (tgt := 134) hx hb dX10_arriveData_103 (by decide) (fun c103 => ?_) (fun c103 => ?_)
    · have hw := hw.1 c103
      refine lv_aload_n hx hb dX10_arriveData_134 rfl (lv_at hl 0 rfl) ?_
      refine lv_iload_n hx hb dX10_arriveData_135 rfl (lv_at hl 1 rfl) ?_
      refine k_V (As := [.int a1]) (rest := []) ⟨hx, hb, hml, hown, hts⟩ (t_X10_putBehind l dC dI base cy a1 v _ hw) (cwV 1 hts (gV ml_X10_274 mi_X10_putBehind mx_X10_putBehind mn_X10 mo_X10_putBehind) rfl rfl rfl (by decide +kernel) ⟨by decide, by decide⟩) hK hP hS th10 (by decide) rfl rfl hl.1 rfl (Nat.le_of_ble_eq_true rfl) dX10_arriveData_136 ⟨Nat.zero_le _, Nat.zero_le _⟩ (fun v2 H locs hw hP hS => ?_)
      exact tb_X10_arriveData_139 hx hb hml hown hts hK p1 _ hret  a1 a2 a3 v2 _ _ _ hw (lv_sub hl [0, 1, 2, 3] rfl) hP hS
    · have hw := hw.2 c103
      refine lv_aload_n hx hb dX10_arriveData_106 rfl (lv_at hl 0 rfl) ?_
      refine w_gR (C := RX10) (T := TX10) (N := 64) (ci := 10) hx hb hts in10 hown hK hP 34 th10.1 th10 rfl (by decide) (ch10_34 th10).1 (hts _ mf_X10_110) dX10_arriveData_107 ?_
      refine lv_bipush (v := 8) hx hb dX10_arriveData_110 (by decide) ?_
      refine lv_iload_n hx hb dX10_arriveData_112 rfl (lv_at hl 3 rfl) ?_
      refine lv_imul hx hb dX10_arriveData_113 ?_
      refine lv_topi (fun x113 ex113 => ?_)
      have hw := hw x113 ex113
      refine lv_iload hx hb dX10_arriveData_114 (lv_at hl 4 rfl) ?_
      refine lv_iadd hx hb dX10_arriveData_116 ?_
      refine lv_topi (fun x116 ex116 => ?_)
      have hw := hw x116 ex116
      refine lv_aload_n hx hb dX10_arriveData_117 rfl (lv_at hl 0 rfl) ?_
      refine w_gR (C := RX10) (T := TX10) (N := 64) (ci := 10) hx hb hts in10 hown hK hP 60 th10.1 th10 rfl (by decide) (ch10_60 th10).1 (hts _ mf_X10_177) dX10_arriveData_118 ?_
      refine lv_bipush (v := 9) hx hb dX10_arriveData_121 (by decide) ?_
      refine lv_iload hx hb dX10_arriveData_123 (lv_at hl 4 rfl) ?_
      refine lv_iadd hx hb dX10_arriveData_125 ?_
      refine lv_topi (fun x125 ex125 => ?_)
      have hw := hw x125 ex125
      obtain ⟨hi3, hw⟩ := hw
      refine w_ia (N := 20) hx hb hK hP (ch10_60 th10).2.1.1 (ch10_60 th10).2.1 (ch10_60 th10).2.2 hi3 dX10_arriveData_126 ?_
      refine lv_topi (fun x126 ex126 => ?_)
      have hw := hw x126 ex126
      obtain ⟨hi5, hw⟩ := hw
      refine w_is (N := 2048) hx hb hK hP hS (ch10_34 th10).2.1.1 (ch10_34 th10).2.1 (ch10_34 th10).2.2 hi5 dX10_arriveData_127 (fun v4 H locs hv4 hP hz hS => ?_)
      have hw := hw v4 hv4
      obtain ⟨x128, ex128⟩ : ∃ y : Int32, y = a4 + 1 := ⟨_, rfl⟩
      have hw := hw x128 ex128
      refine lv_iinc (v := x128) (lv' := [(4, .int x128), (0, .ref (base + 816)), (1, .int a1), (2, .int a2), (3, .int a3)]) hx hb dX10_arriveData_128 hl (k := 4) rfl (by rw [ex128]; first | rfl | (rw [show Int32.ofInt (-1) = (-1 : Int32) from by decide])) (by decide) rfl (fun ls hl => ?_)
      refine lv_goto (tgt := 95) hx hb dX10_arriveData_131 (by decide) ?_
      exact ih a1 a2 a3 x128 v4 _ _ _ hw (lv_sub hl [1, 2, 3, 4, 0] rfl) hP hS
def b_X10_arriveData_91 (p1 : Int32) (Q : VV → Prop) (a1 : Int32) (a2 : Int32) (a3 : Int32) (s0 : Int32) (s1 : Int32) (v : VV) : Prop :=
  vp_in s1 256 ∧ ∀ v1 : VV, v1 = up2 v 849 (Int32.toNatClampNeg s1) (vp_nar .boolean s0) → ∃ fu : Nat, b_X10_arriveData_95 p1 Q  fu a1 a2 a3 0 v1
set_option maxHeartbeats 4000000 in
set_option maxRecDepth 100000 in
theorem tb_X10_arriveData_91 {p : Program} {l : Launch} {e : Env} {s : State} {m : MethodId} {args : Array Value} {below : List Frame} {meth : Method} {c : Code} {QQ : State → Prop} {dC : Nat → ClassId} {dI : Nat → Nat → Nat} {base : Nat} {cy : Nat → ClassId} (hx : p.tables.exec = Jvm.exec) (hb : c.code = cX10_arriveData) (hml : c.maxLocals = 5) (hown : s.vm.findClass RX10 = some m.cls) (hts : ∀ w ∈ TB, w.before args s = true) (hK : va_K (dC, dI) vwCl (tyL cy) s) (p1 : Int32) (Q : VV → Prop) (hret : ∀ (pc : Nat) (v : VV) (H : Heap) (locs : List Loc) (ls : Array Slot), decode cX10_arriveData pc = .ok (.return_, 1) → Q v → va_P (dC, dI) vwCl (Wd base cy rf v 874) H → va_S (fun q => base ≤ q) s.heap H locs → W p l e { frames := 4, cells := 0, slots := 0, locals := 88 } s m args below meth c H locs 0 0 QQ (F0 m pc ls [])) (a1 : Int32) (a2 : Int32) (a3 : Int32) (s0 : Int32) (s1 : Int32) (v : VV) (H : Heap) (locs : List Loc) (ls : Array Slot) (hw : b_X10_arriveData_91 p1 Q  a1 a2 a3 s0 s1 v) : lv_has ls 5 [(0, .ref (base + 816)), (1, .int a1), (2, .int a2), (3, .int a3)] → va_P (dC, dI) vwCl (Wd base cy rf v 874) H → va_S (fun q => base ≤ q) s.heap H locs → W p l e { frames := 4, cells := 0, slots := 0, locals := 88 } s m args below meth c H locs 0 0 QQ (F0 m 91 ls [.int s0, .int s1, .ref (base + 849)]) := by
  intro hl hP hS
  obtain ⟨hi2, hw⟩ := hw
  refine w_zs (N := 256) hx hb hK hP hS (ch10_33 th10).2.1.1 (ch10_33 th10).2.1 (ch10_33 th10).2.2 hi2 dX10_arriveData_91 (fun v1 H locs hv1 hP hz hS => ?_)
  have hw := hw v1 hv1
  refine lv_iconst (v := 0) hx hb dX10_arriveData_92 (by decide) ?_
  refine lv_istore (lv' := [(4, .int 0), (0, .ref (base + 816)), (1, .int a1), (2, .int a2), (3, .int a3)]) hx hb dX10_arriveData_93 hl (by decide) rfl (fun ls hl => ?_)
  obtain ⟨fu, hw⟩ := hw
  exact tb_X10_arriveData_95 hx hb hml hown hts hK p1 _ hret  fu a1 a2 a3 0 v1 _ _ _ hw (lv_sub hl [1, 2, 3, 4, 0] rfl) hP hS
def w_X10_arriveData (p1 : Int32) (v : VV) (Q : VV → Prop) : Prop :=
  vp_in p1 2 ∧ ∀ x5 : Int32, x5 = v 817 (Int32.toNatClampNeg p1) → (x5 = 2 → ∀ x16 : Int32, x16 = v 872 (Int32.toNatClampNeg 4) → w_X10_mod x16 v (fun (x17 : Int32) (v2 : VV) => ∀ x25 : Int32, x25 = 128 * p1 → ∀ x27 : Int32, x27 = x25 + x17 → vp_in p1 2 ∧ ∀ x35 : Int32, x35 = v2 846 (Int32.toNatClampNeg p1) → ∀ x36 : Int32, x36 = x17 - x35 → w_X10_mod x36 v2 (fun (x37 : Int32) (v4 : VV) => w_X10_credit p1 v4 (fun (x42 : Int32) (v5 : VV) => (x42 ≤ x37 → b_X10_arriveData_139 p1 Q  p1 x17 x27 v5) ∧ (¬ x42 ≤ x37 → vp_in x27 256 ∧ ∀ x53 : Int32, x53 = v5 848 (Int32.toNatClampNeg x27) → (0 ≤ x53 → b_X10_arriveData_139 p1 Q  p1 x17 x27 v5) ∧ (¬ 0 ≤ x53 → ∀ x63 : Int32, x63 = v5 816 61 → ∀ x68 : Int32, x68 = x63 - 9 → vp_in x27 256 ∧ ∀ v7 : VV, v7 = up2 v5 848 (Int32.toNatClampNeg x27) x68 → ∀ x80 : Int32, x80 = v7 872 (Int32.toNatClampNeg 4) → (x80 ≤ 127 → b_X10_arriveData_91 p1 Q  p1 x17 x27 0 x27 v7) ∧ (¬ x80 ≤ 127 → b_X10_arriveData_91 p1 Q  p1 x17 x27 1 x27 v7))))))) ∧ (¬ x5 = 2 → Q v)
set_option maxHeartbeats 4000000 in
set_option maxRecDepth 100000 in
/-- TransportFourModel.arriveData -/
theorem t_X10_arriveData (l : Launch) (dC : Nat → ClassId) (dI : Nat → Nat → Nat) (base : Nat) (cy : Nat → ClassId) (p1 : Int32) (v : VV) (Q : VV → Prop) (hw : w_X10_arriveData p1 v Q) : CV l yX10_arriveData (.code yX10_arriveData cX10_arriveData 5 none :: TB) { frames := 4, cells := 0, slots := 0, locals := 88 } dC dI base cy [.ref (base + 816), .int p1] v Q := by
  refine Met.ofW (cc := cX10_arriveData) (maxL := 5) (ret := none) (by decide) rfl ?_
  intro p e s m args below meth c s₁ B hml hv
  obtain ⟨rfl, hP, hK⟩ := hv
  have hx := B.exec
  have hb := B.bytes
  have hr := B.returns
  have hts0 := atoms_spec (ws := (.code yX10_arriveData cX10_arriveData 5 none :: TB)) B.pre
  have hts : ∀ w ∈ TB, w.before ([.ref (base + 816), .int p1]).toArray s = true := fun w h => hts0 w (List.mem_cons_of_mem _ h)
  have hown : s.vm.findClass RX10 = some m.cls := findClass_of_methodNamed B.named
  have hlocks := B.notSynchronized
  have hS : va_S (fun q => base ≤ q) s.heap s.heap [] := va_S.rf
  have hl := lv_entry ([.ref (base + 816), .int p1]) (n := 5) (Nat.le_of_ble_eq_true rfl)
  rw [lg_entry_eq]
  generalize (lg_sl ([.ref (base + 816), .int p1]) ++ List.replicate (5 - (lg_sl ([.ref (base + 816), .int p1])).length) Slot.unset).toArray = ls at hl ⊢
  have hl : lv_has ls 5 [(0, .ref (base + 816)), (1, .int p1)] := hl
  have hret : ∀ (pc : Nat) (v : VV) (H : Heap) (locs : List Loc) (ls : Array Slot), decode cX10_arriveData pc = .ok (.return_, 1) → Q v → va_P (dC, dI) vwCl (Wd base cy rf v 874) H → va_S (fun q => base ≤ q) s.heap H locs → W p l e { frames := 4, cells := 0, slots := 0, locals := 88 } s m ([.ref (base + 816), .int p1]).toArray below meth c H locs 0 0 (MQ below (va_Qv Q (Hp dC dI base cy) (fun q => base ≤ q)) ([.ref (base + 816), .int p1]).toArray s 0 0 (fun q => base ≤ q)) (F0 m pc ls []) := fun pc v H locs ls hd hq hP hS => W.vret hx hb hr (fun t ht hW => ⟨⟨v, rfl, hq, by rw [ht]; exact hP, va_K.moved hW.alike hK⟩, hS.F ht⟩) hS.2.2 hd
  refine lv_aload_n hx hb dX10_arriveData_0 rfl (lv_at hl 0 rfl) ?_
  refine w_gR (C := RX10) (T := TX10) (N := 64) (ci := 10) hx hb hts in10 hown hK hP 1 th10.1 th10 rfl (by decide) (ch10_1 th10).1 (hts _ mf_X10_7) dX10_arriveData_1 ?_
  refine lv_iload_n hx hb dX10_arriveData_4 rfl (lv_at hl 1 rfl) ?_
  obtain ⟨hi1, hw⟩ := hw
  refine w_ia (N := 2) hx hb hK hP (ch10_1 th10).2.1.1 (ch10_1 th10).2.1 (ch10_1 th10).2.2 hi1 dX10_arriveData_5 ?_
  refine lv_topi (fun x5 ex5 => ?_)
  have hw := hw x5 ex5
  refine lv_iconst (v := 2) hx hb dX10_arriveData_6 (by decide) ?_
  refine lv_icmp_eq (tgt := 11) hx hb dX10_arriveData_7 (by decide) (fun c7 => ?_) (fun c7 => ?_)
  · have hw := hw.1 c7
    refine lv_aload_n hx hb dX10_arriveData_11 rfl (lv_at hl 0 rfl) ?_
    refine w_gR (C := RX10) (T := TX10) (N := 64) (ci := 10) hx hb hts in10 hown hK hP 60 th10.1 th10 rfl (by decide) (ch10_60 th10).1 (hts _ mf_X10_177) dX10_arriveData_12 ?_
    refine lv_iconst (v := 4) hx hb dX10_arriveData_15 (by decide) ?_
    refine w_ia (N := 20) hx hb hK hP (ch10_60 th10).2.1.1 (ch10_60 th10).2.1 (ch10_60 th10).2.2 (vp_in_nI (n := 4) (by decide) (by decide)) dX10_arriveData_16 ?_
    refine lv_topi (fun x16 ex16 => ?_)
    have hw := hw x16 ex16
    refine kS_I (As := [.int x16]) (rest := []) ⟨hx, hb, hml, hown, hts⟩ (t_X10_mod l dC dI base cy x16 v _ hw) (cwS 1 hts (gS ml_X10_221 mt_X10_mod mn_X10 mo_X10_mod) rfl rfl rfl (by decide +kernel) ⟨by decide, by decide⟩) hK hP hS rfl hl.1 rfl (Nat.le_of_ble_eq_true rfl) dX10_arriveData_17 ⟨Nat.zero_le _, Nat.zero_le _⟩ (fun x17 v2 H locs hw hP hS => ?_)
    refine lv_istore_n (lv' := [(2, .int x17), (0, .ref (base + 816)), (1, .int p1)]) hx hb dX10_arriveData_20 rfl hl (by decide) rfl (fun ls hl => ?_)
    refine lv_sipush (v := 128) hx hb dX10_arriveData_21 (by decide) ?_
    refine lv_iload_n hx hb dX10_arriveData_24 rfl (lv_at hl 2 rfl) ?_
    refine lv_imul hx hb dX10_arriveData_25 ?_
    refine lv_topi (fun x25 ex25 => ?_)
    have hw := hw x25 ex25
    refine lv_iload_n hx hb dX10_arriveData_26 rfl (lv_at hl 0 rfl) ?_
    refine lv_iadd hx hb dX10_arriveData_27 ?_
    refine lv_topi (fun x27 ex27 => ?_)
    have hw := hw x27 ex27
    refine lv_istore_n (lv' := [(3, .int x27), (2, .int x17), (0, .ref (base + 816)), (1, .int p1)]) hx hb dX10_arriveData_28 rfl hl (by decide) rfl (fun ls hl => ?_)
    refine lv_iload_n hx hb dX10_arriveData_29 rfl (lv_at hl 1 rfl) ?_
    refine lv_aload_n hx hb dX10_arriveData_30 rfl (lv_at hl 2 rfl) ?_
    refine w_gR (C := RX10) (T := TX10) (N := 64) (ci := 10) hx hb hts in10 hown hK hP 30 th10.1 th10 rfl (by decide) (ch10_30 th10).1 (hts _ mf_X10_98) dX10_arriveData_31 ?_
    refine lv_iload_n hx hb dX10_arriveData_34 rfl (lv_at hl 3 rfl) ?_
    obtain ⟨hi3, hw⟩ := hw
    refine w_ia (N := 2) hx hb hK hP (ch10_30 th10).2.1.1 (ch10_30 th10).2.1 (ch10_30 th10).2.2 hi3 dX10_arriveData_35 ?_
    refine lv_topi (fun x35 ex35 => ?_)
    have hw := hw x35 ex35
    refine lv_isub hx hb dX10_arriveData_36 ?_
    refine lv_topi (fun x36 ex36 => ?_)
    have hw := hw x36 ex36
    refine kS_I (As := [.int x36]) (rest := []) ⟨hx, hb, hml, hown, hts⟩ (t_X10_mod l dC dI base cy x36 v2 _ hw) (cwS 1 hts (gS ml_X10_221 mt_X10_mod mn_X10 mo_X10_mod) rfl rfl rfl (by decide +kernel) ⟨by decide, by decide⟩) hK hP hS rfl hl.1 rfl (Nat.le_of_ble_eq_true rfl) dX10_arriveData_37 ⟨Nat.zero_le _, Nat.zero_le _⟩ (fun x37 v4 H locs hw hP hS => ?_)
    refine lv_aload_n hx hb dX10_arriveData_40 rfl (lv_at hl 2 rfl) ?_
    refine lv_iload_n hx hb dX10_arriveData_41 rfl (lv_at hl 3 rfl) ?_
    refine k_I (As := [.int p1]) (rest := [.int x37]) ⟨hx, hb, hml, hown, hts⟩ (t_X10_credit l dC dI base cy p1 v4 _ hw) (cwV 1 hts (gV ml_X10_214 mi_X10_credit mx_X10_credit mn_X10 mo_X10_credit) rfl rfl rfl (by decide +kernel) ⟨by decide, by decide⟩) hK hP hS th10 (by decide) rfl rfl hl.1 rfl (Nat.le_of_ble_eq_true rfl) dX10_arriveData_42 ⟨Nat.zero_le _, Nat.zero_le _⟩ (fun x42 v5 H locs hw hP hS => ?_)
    refine lv_icmp_ge (tgt := 139) hx hb dX10_arriveData_45 (by decide) (fun c45 => ?_) (fun c45 => ?_)
    · have hw := hw.1 c45
      exact tb_X10_arriveData_139 hx hb hml hown hts hK p1 _ hret  p1 x17 x27 v5 _ _ _ hw (lv_sub hl [2, 3, 1, 0] rfl) hP hS
    · have hw := hw.2 c45
      refine lv_aload_n hx hb dX10_arriveData_48 rfl (lv_at hl 2 rfl) ?_
      refine w_gR (C := RX10) (T := TX10) (N := 64) (ci := 10) hx hb hts in10 hown hK hP 32 th10.1 th10 rfl (by decide) (ch10_32 th10).1 (hts _ mf_X10_104) dX10_arriveData_49 ?_
      refine lv_iload_n hx hb dX10_arriveData_52 rfl (lv_at hl 0 rfl) ?_
      obtain ⟨hi6, hw⟩ := hw
      refine w_ia (N := 256) hx hb hK hP (ch10_32 th10).2.1.1 (ch10_32 th10).2.1 (ch10_32 th10).2.2 hi6 dX10_arriveData_53 ?_
      refine lv_topi (fun x53 ex53 => ?_)
      have hw := hw x53 ex53
      refine lv_if_ge (tgt := 139) hx hb dX10_arriveData_54 (by decide) (fun c54 => ?_) (fun c54 => ?_)
      · have hw := hw.1 c54
        exact tb_X10_arriveData_139 hx hb hml hown hts hK p1 _ hret  p1 x17 x27 v5 _ _ _ hw (lv_sub hl [2, 3, 1, 0] rfl) hP hS
      · have hw := hw.2 c54
        refine lv_aload_n hx hb dX10_arriveData_57 rfl (lv_at hl 2 rfl) ?_
        refine w_gR (C := RX10) (T := TX10) (N := 64) (ci := 10) hx hb hts in10 hown hK hP 32 th10.1 th10 rfl (by decide) (ch10_32 th10).1 (hts _ mf_X10_104) dX10_arriveData_58 ?_
        refine lv_iload_n hx hb dX10_arriveData_61 rfl (lv_at hl 0 rfl) ?_
        refine lv_aload_n hx hb dX10_arriveData_62 rfl (lv_at hl 2 rfl) ?_
        refine w_gI (C := RX10) (T := TX10) (N := 64) (ci := 10) hx hb hts in10 hown hK hP 61 th10.1 th10 rfl (by decide) (hts _ mf_X10_259) dX10_arriveData_63 ?_
        refine lv_topi (fun x63 ex63 => ?_)
        have hw := hw x63 ex63
        refine lv_bipush (v := 9) hx hb dX10_arriveData_66 (by decide) ?_
        refine lv_isub hx hb dX10_arriveData_68 ?_
        refine lv_topi (fun x68 ex68 => ?_)
        have hw := hw x68 ex68
        obtain ⟨hi8, hw⟩ := hw
        refine w_is (N := 256) hx hb hK hP hS (ch10_32 th10).2.1.1 (ch10_32 th10).2.1 (ch10_32 th10).2.2 hi8 dX10_arriveData_69 (fun v7 H locs hv7 hP hz hS => ?_)
        have hw := hw v7 hv7
        refine lv_aload_n hx hb dX10_arriveData_70 rfl (lv_at hl 2 rfl) ?_
        refine w_gR (C := RX10) (T := TX10) (N := 64) (ci := 10) hx hb hts in10 hown hK hP 33 th10.1 th10 rfl (by decide) (ch10_33 th10).1 (hts _ mf_X10_107) dX10_arriveData_71 ?_
        refine lv_iload_n hx hb dX10_arriveData_74 rfl (lv_at hl 0 rfl) ?_
        refine lv_aload_n hx hb dX10_arriveData_75 rfl (lv_at hl 2 rfl) ?_
        refine w_gR (C := RX10) (T := TX10) (N := 64) (ci := 10) hx hb hts in10 hown hK hP 60 th10.1 th10 rfl (by decide) (ch10_60 th10).1 (hts _ mf_X10_177) dX10_arriveData_76 ?_
        refine lv_iconst (v := 4) hx hb dX10_arriveData_79 (by decide) ?_
        refine w_ia (N := 20) hx hb hK hP (ch10_60 th10).2.1.1 (ch10_60 th10).2.1 (ch10_60 th10).2.2 (vp_in_nI (n := 4) (by decide) (by decide)) dX10_arriveData_80 ?_
        refine lv_topi (fun x80 ex80 => ?_)
        have hw := hw x80 ex80
        refine lv_bipush (v := 127) hx hb dX10_arriveData_81 (by decide) ?_
        refine lv_icmp_le (tgt := 90) hx hb dX10_arriveData_83 (by decide) (fun c83 => ?_) (fun c83 => ?_)
        · have hw := hw.1 c83
          refine lv_iconst (v := 0) hx hb dX10_arriveData_90 (by decide) ?_
          exact tb_X10_arriveData_91 hx hb hml hown hts hK p1 _ hret  p1 x17 x27 0 x27 v7 _ _ _ hw (lv_sub hl [2, 3, 1, 0] rfl) hP hS
        · have hw := hw.2 c83
          refine lv_iconst (v := 1) hx hb dX10_arriveData_86 (by decide) ?_
          refine lv_goto (tgt := 91) hx hb dX10_arriveData_87 (by decide) ?_
          exact tb_X10_arriveData_91 hx hb hml hown hts hK p1 _ hret  p1 x17 x27 1 x27 v7 _ _ _ hw (lv_sub hl [2, 3, 1, 0] rfl) hP hS
  · have hw := hw.2 c7
    exact hret _ _ _ _ _ dX10_arriveData_10 hw hP hS
