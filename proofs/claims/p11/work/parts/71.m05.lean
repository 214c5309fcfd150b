def b_X10_arriveReceipt_206 (p1 : Int32) (Q : VV → Prop) (K107 : Int32 → Int32 → Int32 → Int32 → VV → Prop) (fu : Nat) : Int32 → Int32 → Int32 → Int32 → Int32 → VV → Prop :=
  Nat.rec (motive := fun _ => Int32 → Int32 → Int32 → Int32 → Int32 → VV → Prop) (fun _ _ _ _ _ _ => False) (fun _ ih a1 a2 a3 a4 a5 v => (8 ≤ a5 → ∀ x247 : Int32, x247 = a4 + 1 → K107 a1 a2 a3 x247 v) ∧ (¬ 8 ≤ a5 → ∀ x222 : Int32, x222 = a4 - a3 → ∀ x223 : Int32, x223 = 8 * x222 → ∀ x226 : Int32, x226 = x223 + a5 → ∀ x235 : Int32, x235 = 8 * a4 → ∀ x238 : Int32, x238 = x235 + a5 → vp_in x238 640 ∧ ∀ x239 : Int32, x239 = v 837 (Int32.toNatClampNeg x238) → vp_in x226 640 ∧ ∀ v2 : VV, v2 = up2 v 837 (Int32.toNatClampNeg x226) x239 → ∀ x241 : Int32, x241 = a5 + 1 → ih a1 a2 a3 a4 x241 v2)) fu
set_option maxHeartbeats 4000000 in
set_option maxRecDepth 100000 in
theorem tb_X10_arriveReceipt_206 {p : Program} {l : Launch} {e : Env} {s : State} {m : MethodId} {args : Array Value} {below : List Frame} {meth : Method} {c : Code} {QQ : State → Prop} {dC : Nat → ClassId} {dI : Nat → Nat → Nat} {base : Nat} {cy : Nat → ClassId} (hx : p.tables.exec = Jvm.exec) (hb : c.code = cX10_arriveReceipt) (hml : c.maxLocals = 6) (hown : s.vm.findClass RX10 = some m.cls) (hts : ∀ w ∈ TB, w.before args s = true) (hK : va_K (dC, dI) vwCl (tyL cy) s) (p1 : Int32) (Q : VV → Prop) (hret : ∀ (pc : Nat) (v : VV) (H : Heap) (locs : List Loc) (ls : Array Slot), decode cX10_arriveReceipt pc = .ok (.return_, 1) → Q v → va_P (dC, dI) vwCl (Wd base cy rf v 874) H → va_S (fun q => base ≤ q) s.heap H locs → W p l e { frames := 4, cells := 0, slots := 0, locals := 90 } s m args below meth c H locs 0 0 QQ (F0 m pc ls [])) (K107 : Int32 → Int32 → Int32 → Int32 → VV → Prop) (hK107 : ∀ (a1 : Int32) (a2 : Int32) (a3 : Int32) (a4 : Int32) (v : VV) (H : Heap) (locs : List Loc) (ls : Array Slot), K107 a1 a2 a3 a4 v → lv_has ls 6 [(0, .ref (base + 816)), (1, .int a1), (2, .int a2), (3, .int a3), (4, .int a4)] → va_P (dC, dI) vwCl (Wd base cy rf v 874) H → va_S (fun q => base ≤ q) s.heap H locs → W p l e { frames := 4, cells := 0, slots := 0, locals := 90 } s m args below meth c H locs 0 0 QQ (F0 m 107 ls [])) : ∀ (fu : Nat) (a1 : Int32) (a2 : Int32) (a3 : Int32) (a4 : Int32) (a5 : Int32) (v : VV) (H : Heap) (locs : List Loc) (ls : Array Slot), b_X10_arriveReceipt_206 p1 Q K107 fu a1 a2 a3 a4 a5 v → lv_has ls 6 [(0, .ref (base + 816)), (1, .int a1), (2, .int a2), (3, .int a3), (4, .int a4), (5, .int a5)] → va_P (dC, dI) vwCl (Wd base cy rf v 874) H → va_S (fun q => base ≤ q) s.heap H locs → W p l e { frames := 4, cells := 0, slots := 0, locals := 90 } s m args below meth c H locs 0 0 QQ (F0 m 206 ls []) := by
  intro fu
  induction fu with
  | zero =>
    intro a1 a2 a3 a4 a5 v H locs ls hw hl hP hS
    exact hw.elim
  | succ fu ih =>
    intro a1 a2 a3 a4 a5 v H locs ls hw hl hP hS
    refine lv_iload hx hb dX10_arriveReceipt_206 (lv_at hl 5 rfl) ?_
    refine lv_bipush (v := 8) hx hb dX10_arriveReceipt_208 (by decide) ?_
    refine lv_icmp_ge (tgt := 247) hx hb dX10_arriveReceipt_210 (by decide) (fun c210 => ?_) (fun c210 => ?_)
    · have hw := hw.1 c210
      obtain ⟨x247, ex247⟩ : ∃ y : Int32, y = a4 + 1 := ⟨_, rfl⟩
      have hw := hw x247 ex247
      refine lv_iinc (v := x247) (lv' := [(4, .int x247), (0, .ref (base + 816)), (1, .int a1), (2, .int a2), (3, .int a3), (5, .int a5)]) hx hb dX10_arriveReceipt_247 hl (k := 4) rfl (by rw [ex247]; first | rfl | (rw [show Int32.ofInt (-1) = (-1 : Int32) from by decide])) (by decide) rfl (fun ls hl => ?_)
      refine lv_goto (tgt := 107) hx hb dX10_arriveReceipt_250 (by decide) ?_
      exact hK107 a1 a2 a3 x247 v _ _ _ hw (lv_sub hl [1, 2, 3, 4, 0] rfl) hP hS
    · have hw := hw.2 c210
      refine lv_aload_n hx hb dX10_arriveReceipt_213 rfl (lv_at hl 0 rfl) ?_
      refine w_gR (C := RX10) (T := TX10) (N := 64) (ci := 10) hx hb hts in10 hown hK hP 21 th10.1 th10 rfl (by decide) (ch10_21 th10).1 (hts _ mf_X10_71) dX10_arriveReceipt_214 ?_
      refine lv_bipush (v := 8) hx hb dX10_arriveReceipt_217 (by decide) ?_
      refine lv_iload hx hb dX10_arriveReceipt_219 (lv_at hl 4 rfl) ?_
      refine lv_iload_n hx hb dX10_arriveReceipt_221 rfl (lv_at hl 3 rfl) ?_
      refine lv_isub hx hb dX10_arriveReceipt_222 ?_
      refine lv_topi (fun x222 ex222 => ?_)
      have hw := hw x222 ex222
      refine lv_imul hx hb dX10_arriveReceipt_223 ?_
      refine lv_topi (fun x223 ex223 => ?_)
      have hw := hw x223 ex223
      refine lv_iload hx hb dX10_arriveReceipt_224 (lv_at hl 5 rfl) ?_
      refine lv_iadd hx hb dX10_arriveReceipt_226 ?_
      refine lv_topi (fun x226 ex226 => ?_)
      have hw := hw x226 ex226
      refine lv_aload_n hx hb dX10_arriveReceipt_227 rfl (lv_at hl 0 rfl) ?_
      refine w_gR (C := RX10) (T := TX10) (N := 64) (ci := 10) hx hb hts in10 hown hK hP 21 th10.1 th10 rfl (by decide) (ch10_21 th10).1 (hts _ mf_X10_71) dX10_arriveReceipt_228 ?_
      refine lv_bipush (v := 8) hx hb dX10_arriveReceipt_231 (by decide) ?_
      refine lv_iload hx hb dX10_arriveReceipt_233 (lv_at hl 4 rfl) ?_
      refine lv_imul hx hb dX10_arriveReceipt_235 ?_
      refine lv_topi (fun x235 ex235 => ?_)
      have hw := hw x235 ex235
      refine lv_iload hx hb dX10_arriveReceipt_236 (lv_at hl 5 rfl) ?_
      refine lv_iadd hx hb dX10_arriveReceipt_238 ?_
      refine lv_topi (fun x238 ex238 => ?_)
      have hw := hw x238 ex238
      obtain ⟨hi1, hw⟩ := hw
      refine w_ia (N := 640) hx hb hK hP (ch10_21 th10).2.1.1 (ch10_21 th10).2.1 (ch10_21 th10).2.2 hi1 dX10_arriveReceipt_239 ?_
      refine lv_topi (fun x239 ex239 => ?_)
      have hw := hw x239 ex239
      obtain ⟨hi3, hw⟩ := hw
      refine w_is (N := 640) hx hb hK hP hS (ch10_21 th10).2.1.1 (ch10_21 th10).2.1 (ch10_21 th10).2.2 hi3 dX10_arriveReceipt_240 (fun v2 H locs hv2 hP hz hS => ?_)
      have hw := hw v2 hv2
      obtain ⟨x241, ex241⟩ : ∃ y : Int32, y = a5 + 1 := ⟨_, rfl⟩
      have hw := hw x241 ex241
      refine lv_iinc (v := x241) (lv' := [(5, .int x241), (0, .ref (base + 816)), (1, .int a1), (2, .int a2), (3, .int a3), (4, .int a4)]) hx hb dX10_arriveReceipt_241 hl (k := 5) rfl (by rw [ex241]; first | rfl | (rw [show Int32.ofInt (-1) = (-1 : Int32) from by decide])) (by decide) rfl (fun ls hl => ?_)
      refine lv_goto (tgt := 206) hx hb dX10_arriveReceipt_244 (by decide) ?_
      exact ih a1 a2 a3 a4 x241 v2 _ _ _ hw (lv_sub hl [1, 2, 3, 4, 5, 0] rfl) hP hS
def b_X10_arriveReceipt_107 (p1 : Int32) (Q : VV → Prop) (fu : Nat) : Int32 → Int32 → Int32 → Int32 → VV → Prop :=
  Nat.rec (motive := fun _ => Int32 → Int32 → Int32 → Int32 → VV → Prop) (fun _ _ _ _ _ => False) (fun _ ih a1 a2 a3 a4 v => ∀ x112 : Int32, x112 = 40 * a1 → vp_in a1 2 ∧ ∀ x118 : Int32, x118 = v 830 (Int32.toNatClampNeg a1) → ∀ x119 : Int32, x119 = x112 + x118 → (x119 ≤ a4 → vp_in a1 2 ∧ ∀ x259 : Int32, x259 = v 830 (Int32.toNatClampNeg a1) → ∀ x261 : Int32, x261 = x259 - a3 → vp_in a1 2 ∧ ∀ v3 : VV, v3 = up2 v 830 (Int32.toNatClampNeg a1) x261 → vp_in a1 2 ∧ ∀ x269 : Int32, x269 = v3 831 (Int32.toNatClampNeg a1) → ∀ x271 : Int32, x271 = x269 - a3 → vp_in a1 2 ∧ ∀ v6 : VV, v6 = up2 v3 831 (Int32.toNatClampNeg a1) x271 → w_X10_goOn a1 v6 (fun (v8 : VV) => Q v8)) ∧ (¬ x119 ≤ a4 → ∀ x130 : Int32, x130 = a4 - a3 → vp_in a4 80 ∧ ∀ x137 : Int32, x137 = v 832 (Int32.toNatClampNeg a4) → vp_in x130 80 ∧ ∀ v10 : VV, v10 = up2 v 832 (Int32.toNatClampNeg x130) x137 → ∀ x146 : Int32, x146 = a4 - a3 → vp_in a4 80 ∧ ∀ x153 : Int32, x153 = v10 833 (Int32.toNatClampNeg a4) → vp_in x146 80 ∧ ∀ v13 : VV, v13 = up2 v10 833 (Int32.toNatClampNeg x146) (vp_nar .boolean x153) → ∀ x162 : Int32, x162 = a4 - a3 → vp_in a4 80 ∧ ∀ x169 : Int32, x169 = v13 834 (Int32.toNatClampNeg a4) → vp_in x162 80 ∧ ∀ v16 : VV, v16 = up2 v13 834 (Int32.toNatClampNeg x162) x169 → ∀ x178 : Int32, x178 = a4 - a3 → vp_in a4 80 ∧ ∀ x185 : Int32, x185 = v16 835 (Int32.toNatClampNeg a4) → vp_in x178 80 ∧ ∀ v19 : VV, v19 = up2 v16 835 (Int32.toNatClampNeg x178) x185 → ∀ x194 : Int32, x194 = a4 - a3 → vp_in a4 80 ∧ ∀ x201 : Int32, x201 = v19 836 (Int32.toNatClampNeg a4) → vp_in x194 80 ∧ ∀ v22 : VV, v22 = up2 v19 836 (Int32.toNatClampNeg x194) x201 → ∃ fu : Nat, b_X10_arriveReceipt_206 p1 Q ih fu a1 a2 a3 a4 0 v22)) fu
set_option maxHeartbeats 4000000 in
set_option maxRecDepth 100000 in
theorem tb_X10_arriveReceipt_107 {p : Program} {l : Launch} {e : Env} {s : State} {m : MethodId} {args : Array Value} {below : List Frame} {meth : Method} {c : Code} {QQ : State → Prop} {dC : Nat → ClassId} {dI : Nat → Nat → Nat} {base : Nat} {cy : Nat → ClassId} (hx : p.tables.exec = Jvm.exec) (hb : c.code = cX10_arriveReceipt) (hml : c.maxLocals = 6) (hown : s.vm.findClass RX10 = some m.cls) (hts : ∀ w ∈ TB, w.before args s = true) (hK : va_K (dC, dI) vwCl (tyL cy) s) (p1 : Int32) (Q : VV → Prop) (hret : ∀ (pc : Nat) (v : VV) (H : Heap) (locs : List Loc) (ls : Array Slot), decode cX10_arriveReceipt pc = .ok (.return_, 1) → Q v → va_P (dC, dI) vwCl (Wd base cy rf v 874) H → va_S (fun q => base ≤ q) s.heap H locs → W p l e { frames := 4, cells := 0, slots := 0, locals := 90 } s m args below meth c H locs 0 0 QQ (F0 m pc ls [])) : ∀ (fu : Nat) (a1 : Int32) (a2 : Int32) (a3 : Int32) (a4 : Int32) (v : VV) (H : Heap) (locs : List Loc) (ls : Array Slot), b_X10_arriveReceipt_107 p1 Q  fu a1 a2 a3 a4 v → lv_has ls 6 [(0, .ref (base + 816)), (1, .int a1), (2, .int a2), (3, .int a3), (4, .int a4)] → va_P (dC, dI) vwCl (Wd base cy rf v 874) H → va_S (fun q => base ≤ q) s.heap H locs → W p l e { frames := 4, cells := 0, slots := 0, locals := 90 } s m args below meth c H locs 0 0 QQ (F0 m 107 ls []) := by
  intro fu
  induction fu with
  | zero =>
    intro a1 a2 a3 a4 v H locs ls hw hl hP hS
    exact hw.elim
  | succ fu ih =>
    intro a1 a2 a3 a4 v H locs ls hw hl hP hS
    refine lv_iload hx hb dX10_arriveReceipt_107 (lv_at hl 4 rfl) ?_
    refine lv_bipush (v := 40) hx hb dX10_arriveReceipt_109 (by decide) ?_
    refine lv_iload_n hx hb dX10_arriveReceipt_111 rfl (lv_at hl 1 rfl) ?_
    refine lv_imul hx hb dX10_arriveReceipt_112 ?_
    refine lv_topi (fun x112 ex112 => ?_)
    have hw := hw x112 ex112
    refine lv_aload_n hx hb dX10_arriveReceipt_113 rfl (lv_at hl 0 rfl) ?_
    refine w_gR (C := RX10) (T := TX10) (N := 64) (ci := 10) hx hb hts in10 hown hK hP 14 th10.1 th10 rfl (by decide) (ch10_14 th10).1 (hts _ mf_X10_50) dX10_arriveReceipt_114 ?_
    refine lv_iload_n hx hb dX10_arriveReceipt_117 rfl (lv_at hl 1 rfl) ?_
    obtain ⟨hi1, hw⟩ := hw
    refine w_ia (N := 2) hx hb hK hP (ch10_14 th10).2.1.1 (ch10_14 th10).2.1 (ch10_14 th10).2.2 hi1 dX10_arriveReceipt_118 ?_
    refine lv_topi (fun x118 ex118 => ?_)
    have hw := hw x118 ex118
    refine lv_iadd hx hb dX10_arriveReceipt_119 ?_
    refine lv_topi (fun x119 ex119 => ?_)
    have hw := hw x119 ex119
    refine lv_icmp_ge (tgt := 253) hx hb dX10_arriveReceipt_120 (by decide) (fun c120 => ?_) (fun c120 => ?_)
    · have hw := hw.1 c120
      refine lv_aload_n hx hb dX10_arriveReceipt_253 rfl (lv_at hl 0 rfl) ?_
      refine w_gR (C := RX10) (T := TX10) (N := 64) (ci := 10) hx hb hts in10 hown hK hP 14 th10.1 th10 rfl (by decide) (ch10_14 th10).1 (hts _ mf_X10_50) dX10_arriveReceipt_254 ?_
      refine lv_iload_n hx hb dX10_arriveReceipt_257 rfl (lv_at hl 1 rfl) ?_
      refine lv_dup2_11 hx hb dX10_arriveReceipt_258 rfl rfl ?_
      obtain ⟨hi2, hw⟩ := hw
      refine w_ia (N := 2) hx hb hK hP (ch10_14 th10).2.1.1 (ch10_14 th10).2.1 (ch10_14 th10).2.2 hi2 dX10_arriveReceipt_259 ?_
      refine lv_topi (fun x259 ex259 => ?_)
      have hw := hw x259 ex259
      refine lv_iload_n hx hb dX10_arriveReceipt_260 rfl (lv_at hl 3 rfl) ?_
      refine lv_isub hx hb dX10_arriveReceipt_261 ?_
      refine lv_topi (fun x261 ex261 => ?_)
      have hw := hw x261 ex261
      obtain ⟨hi4, hw⟩ := hw
      refine w_is (N := 2) hx hb hK hP hS (ch10_14 th10).2.1.1 (ch10_14 th10).2.1 (ch10_14 th10).2.2 hi4 dX10_arriveReceipt_262 (fun v3 H locs hv3 hP hz hS => ?_)
      have hw := hw v3 hv3
      refine lv_aload_n hx hb dX10_arriveReceipt_263 rfl (lv_at hl 0 rfl) ?_
      refine w_gR (C := RX10) (T := TX10) (N := 64) (ci := 10) hx hb hts in10 hown hK hP 15 th10.1 th10 rfl (by decide) (ch10_15 th10).1 (hts _ mf_X10_53) dX10_arriveReceipt_264 ?_
      refine lv_iload_n hx hb dX10_arriveReceipt_267 rfl (lv_at hl 1 rfl) ?_
      refine lv_dup2_11 hx hb dX10_arriveReceipt_268 rfl rfl ?_
      obtain ⟨hi5, hw⟩ := hw
      refine w_ia (N := 2) hx hb hK hP (ch10_15 th10).2.1.1 (ch10_15 th10).2.1 (ch10_15 th10).2.2 hi5 dX10_arriveReceipt_269 ?_
      refine lv_topi (fun x269 ex269 => ?_)
      have hw := hw x269 ex269
      refine lv_iload_n hx hb dX10_arriveReceipt_270 rfl (lv_at hl 3 rfl) ?_
      refine lv_isub hx hb dX10_arriveReceipt_271 ?_
      refine lv_topi (fun x271 ex271 => ?_)
      have hw := hw x271 ex271
      obtain ⟨hi7, hw⟩ := hw
      refine w_is (N := 2) hx hb hK hP hS (ch10_15 th10).2.1.1 (ch10_15 th10).2.1 (ch10_15 th10).2.2 hi7 dX10_arriveReceipt_272 (fun v6 H locs hv6 hP hz hS => ?_)
      have hw := hw v6 hv6
      refine lv_aload_n hx hb dX10_arriveReceipt_273 rfl (lv_at hl 0 rfl) ?_
      refine lv_iload_n hx hb dX10_arriveReceipt_274 rfl (lv_at hl 1 rfl) ?_
      refine k_V (As := [.int a1]) (rest := []) ⟨hx, hb, hml, hown, hts⟩ (t_X10_goOn l dC dI base cy a1 v6 _ hw) (cwV 1 hts (gV ml_X10_256 mi_X10_goOn mx_X10_goOn mn_X10 mo_X10_goOn) rfl rfl rfl (by decide +kernel) ⟨by decide, by decide⟩) hK hP hS th10 (by decide) rfl rfl hl.1 rfl (Nat.le_of_ble_eq_true rfl) dX10_arriveReceipt_275 ⟨Nat.zero_le _, Nat.zero_le _⟩ (fun v8 H locs hw hP hS => ?_)
      exact hret _ _ _ _ _ dX10_arriveReceipt_278 hw hP hS
    · have hw := hw.2 c120
      refine lv_aload_n hx hb dX10_arriveReceipt_123 rfl (lv_at hl 0 rfl) ?_
      refine w_gR (C := RX10) (T := TX10) (N := 64) (ci := 10) hx hb hts in10 hown hK hP 16 th10.1 th10 rfl (by decide) (ch10_16 th10).1 (hts _ mf_X10_56) dX10_arriveReceipt_124 ?_
      refine lv_iload hx hb dX10_arriveReceipt_127 (lv_at hl 4 rfl) ?_
      refine lv_iload_n hx hb dX10_arriveReceipt_129 rfl (lv_at hl 3 rfl) ?_
      refine lv_isub hx hb dX10_arriveReceipt_130 ?_
      refine lv_topi (fun x130 ex130 => ?_)
      have hw := hw x130 ex130
      refine lv_aload_n hx hb dX10_arriveReceipt_131 rfl (lv_at hl 0 rfl) ?_
      refine w_gR (C := RX10) (T := TX10) (N := 64) (ci := 10) hx hb hts in10 hown hK hP 16 th10.1 th10 rfl (by decide) (ch10_16 th10).1 (hts _ mf_X10_56) dX10_arriveReceipt_132 ?_
      refine lv_iload hx hb dX10_arriveReceipt_135 (lv_at hl 4 rfl) ?_
      obtain ⟨hi9, hw⟩ := hw
      refine w_ia (N := 80) hx hb hK hP (ch10_16 th10).2.1.1 (ch10_16 th10).2.1 (ch10_16 th10).2.2 hi9 dX10_arriveReceipt_137 ?_
      refine lv_topi (fun x137 ex137 => ?_)
      have hw := hw x137 ex137
      obtain ⟨hi11, hw⟩ := hw
      refine w_is (N := 80) hx hb hK hP hS (ch10_16 th10).2.1.1 (ch10_16 th10).2.1 (ch10_16 th10).2.2 hi11 dX10_arriveReceipt_138 (fun v10 H locs hv10 hP hz hS => ?_)
      have hw := hw v10 hv10
      refine lv_aload_n hx hb dX10_arriveReceipt_139 rfl (lv_at hl 0 rfl) ?_
      refine w_gR (C := RX10) (T := TX10) (N := 64) (ci := 10) hx hb hts in10 hown hK hP 17 th10.1 th10 rfl (by decide) (ch10_17 th10).1 (hts _ mf_X10_59) dX10_arriveReceipt_140 ?_
      refine lv_iload hx hb dX10_arriveReceipt_143 (lv_at hl 4 rfl) ?_
      refine lv_iload_n hx hb dX10_arriveReceipt_145 rfl (lv_at hl 3 rfl) ?_
      refine lv_isub hx hb dX10_arriveReceipt_146 ?_
      refine lv_topi (fun x146 ex146 => ?_)
      have hw := hw x146 ex146
      refine lv_aload_n hx hb dX10_arriveReceipt_147 rfl (lv_at hl 0 rfl) ?_
      refine w_gR (C := RX10) (T := TX10) (N := 64) (ci := 10) hx hb hts in10 hown hK hP 17 th10.1 th10 rfl (by decide) (ch10_17 th10).1 (hts _ mf_X10_59) dX10_arriveReceipt_148 ?_
      refine lv_iload hx hb dX10_arriveReceipt_151 (lv_at hl 4 rfl) ?_
      obtain ⟨hi12, hw⟩ := hw
      refine w_za (N := 80) hx hb hK hP (ch10_17 th10).2.1.1 (ch10_17 th10).2.1 (ch10_17 th10).2.2 hi12 dX10_arriveReceipt_153 ?_
      refine lv_topi (fun x153 ex153 => ?_)
      have hw := hw x153 ex153
      obtain ⟨hi14, hw⟩ := hw
      refine w_zs (N := 80) hx hb hK hP hS (ch10_17 th10).2.1.1 (ch10_17 th10).2.1 (ch10_17 th10).2.2 hi14 dX10_arriveReceipt_154 (fun v13 H locs hv13 hP hz hS => ?_)
      have hw := hw v13 hv13
      refine lv_aload_n hx hb dX10_arriveReceipt_155 rfl (lv_at hl 0 rfl) ?_
      refine w_gR (C := RX10) (T := TX10) (N := 64) (ci := 10) hx hb hts in10 hown hK hP 18 th10.1 th10 rfl (by decide) (ch10_18 th10).1 (hts _ mf_X10_62) dX10_arriveReceipt_156 ?_
      refine lv_iload hx hb dX10_arriveReceipt_159 (lv_at hl 4 rfl) ?_
      refine lv_iload_n hx hb dX10_arriveReceipt_161 rfl (lv_at hl 3 rfl) ?_
      refine lv_isub hx hb dX10_arriveReceipt_162 ?_
      refine lv_topi (fun x162 ex162 => ?_)
      have hw := hw x162 ex162
      refine lv_aload_n hx hb dX10_arriveReceipt_163 rfl (lv_at hl 0 rfl) ?_
      refine w_gR (C := RX10) (T := TX10) (N := 64) (ci := 10) hx hb hts in10 hown hK hP 18 th10.1 th10 rfl (by decide) (ch10_18 th10).1 (hts _ mf_X10_62) dX10_arriveReceipt_164 ?_
      refine lv_iload hx hb dX10_arriveReceipt_167 (lv_at hl 4 rfl) ?_
      obtain ⟨hi15, hw⟩ := hw
      refine w_ia (N := 80) hx hb hK hP (ch10_18 th10).2.1.1 (ch10_18 th10).2.1 (ch10_18 th10).2.2 hi15 dX10_arriveReceipt_169 ?_
      refine lv_topi (fun x169 ex169 => ?_)
      have hw := hw x169 ex169
      obtain ⟨hi17, hw⟩ := hw
      refine w_is (N := 80) hx hb hK hP hS (ch10_18 th10).2.1.1 (ch10_18 th10).2.1 (ch10_18 th10).2.2 hi17 dX10_arriveReceipt_170 (fun v16 H locs hv16 hP hz hS => ?_)
      have hw := hw v16 hv16
      refine lv_aload_n hx hb dX10_arriveReceipt_171 rfl (lv_at hl 0 rfl) ?_
      refine w_gR (C := RX10) (T := TX10) (N := 64) (ci := 10) hx hb hts in10 hown hK hP 19 th10.1 th10 rfl (by decide) (ch10_19 th10).1 (hts _ mf_X10_65) dX10_arriveReceipt_172 ?_
      refine lv_iload hx hb dX10_arriveReceipt_175 (lv_at hl 4 rfl) ?_
      refine lv_iload_n hx hb dX10_arriveReceipt_177 rfl (lv_at hl 3 rfl) ?_
      refine lv_isub hx hb dX10_arriveReceipt_178 ?_
      refine lv_topi (fun x178 ex178 => ?_)
      have hw := hw x178 ex178
      refine lv_aload_n hx hb dX10_arriveReceipt_179 rfl (lv_at hl 0 rfl) ?_
      refine w_gR (C := RX10) (T := TX10) (N := 64) (ci := 10) hx hb hts in10 hown hK hP 19 th10.1 th10 rfl (by decide) (ch10_19 th10).1 (hts _ mf_X10_65) dX10_arriveReceipt_180 ?_
      refine lv_iload hx hb dX10_arriveReceipt_183 (lv_at hl 4 rfl) ?_
      obtain ⟨hi18, hw⟩ := hw
      refine w_ia (N := 80) hx hb hK hP (ch10_19 th10).2.1.1 (ch10_19 th10).2.1 (ch10_19 th10).2.2 hi18 dX10_arriveReceipt_185 ?_
      refine lv_topi (fun x185 ex185 => ?_)
      have hw := hw x185 ex185
      obtain ⟨hi20, hw⟩ := hw
      refine w_is (N := 80) hx hb hK hP hS (ch10_19 th10).2.1.1 (ch10_19 th10).2.1 (ch10_19 th10).2.2 hi20 dX10_arriveReceipt_186 (fun v19 H locs hv19 hP hz hS => ?_)
      have hw := hw v19 hv19
      refine lv_aload_n hx hb dX10_arriveReceipt_187 rfl (lv_at hl 0 rfl) ?_
      refine w_gR (C := RX10) (T := TX10) (N := 64) (ci := 10) hx hb hts in10 hown hK hP 20 th10.1 th10 rfl (by decide) (ch10_20 th10).1 (hts _ mf_X10_68) dX10_arriveReceipt_188 ?_
      refine lv_iload hx hb dX10_arriveReceipt_191 (lv_at hl 4 rfl) ?_
      refine lv_iload_n hx hb dX10_arriveReceipt_193 rfl (lv_at hl 3 rfl) ?_
      refine lv_isub hx hb dX10_arriveReceipt_194 ?_
      refine lv_topi (fun x194 ex194 => ?_)
      have hw := hw x194 ex194
      refine lv_aload_n hx hb dX10_arriveReceipt_195 rfl (lv_at hl 0 rfl) ?_
      refine w_gR (C := RX10) (T := TX10) (N := 64) (ci := 10) hx hb hts in10 hown hK hP 20 th10.1 th10 rfl (by decide) (ch10_20 th10).1 (hts _ mf_X10_68) dX10_arriveReceipt_196 ?_
      refine lv_iload hx hb dX10_arriveReceipt_199 (lv_at hl 4 rfl) ?_
      obtain ⟨hi21, hw⟩ := hw
      refine w_ia (N := 80) hx hb hK hP (ch10_20 th10).2.1.1 (ch10_20 th10).2.1 (ch10_20 th10).2.2 hi21 dX10_arriveReceipt_201 ?_
      refine lv_topi (fun x201 ex201 => ?_)
      have hw := hw x201 ex201
      obtain ⟨hi23, hw⟩ := hw
      refine w_is (N := 80) hx hb hK hP hS (ch10_20 th10).2.1.1 (ch10_20 th10).2.1 (ch10_20 th10).2.2 hi23 dX10_arriveReceipt_202 (fun v22 H locs hv22 hP hz hS => ?_)
      have hw := hw v22 hv22
      refine lv_iconst (v := 0) hx hb dX10_arriveReceipt_203 (by decide) ?_
      refine lv_istore (lv' := [(5, .int 0), (0, .ref (base + 816)), (1, .int a1), (2, .int a2), (3, .int a3), (4, .int a4)]) hx hb dX10_arriveReceipt_204 hl (by decide) rfl (fun ls hl => ?_)
      obtain ⟨fu, hw⟩ := hw
      exact tb_X10_arriveReceipt_206 hx hb hml hown hts hK p1 _ hret _ ih fu a1 a2 a3 a4 0 v22 _ _ _ hw (lv_sub hl [1, 2, 3, 4, 5, 0] rfl) hP hS
def b_X10_arriveReceipt_98 (p1 : Int32) (Q : VV → Prop) (a1 : Int32) (a2 : Int32) (s0 : Int32) (v : VV) : Prop :=
  ∀ x102 : Int32, x102 = 40 * a1 → ∀ x104 : Int32, x104 = x102 + s0 → ∃ fu : Nat, b_X10_arriveReceipt_107 p1 Q  fu a1 a2 s0 x104 v
set_option maxHeartbeats 4000000 in
set_option maxRecDepth 100000 in
theorem tb_X10_arriveReceipt_98 {p : Program} {l : Launch} {e : Env} {s : State} {m : MethodId} {args : Array Value} {below : List Frame} {meth : Method} {c : Code} {QQ : State → Prop} {dC : Nat → ClassId} {dI : Nat → Nat → Nat} {base : Nat} {cy : Nat → ClassId} (hx : p.tables.exec = Jvm.exec) (hb : c.code = cX10_arriveReceipt) (hml : c.maxLocals = 6) (hown : s.vm.findClass RX10 = some m.cls) (hts : ∀ w ∈ TB, w.before args s = true) (hK : va_K (dC, dI) vwCl (tyL cy) s) (p1 : Int32) (Q : VV → Prop) (hret : ∀ (pc : Nat) (v : VV) (H : Heap) (locs : List Loc) (ls : Array Slot), decode cX10_arriveReceipt pc = .ok (.return_, 1) → Q v → va_P (dC, dI) vwCl (Wd base cy rf v 874) H → va_S (fun q => base ≤ q) s.heap H locs → W p l e { frames := 4, cells := 0, slots := 0, locals := 90 } s m args below meth c H locs 0 0 QQ (F0 m pc ls [])) (a1 : Int32) (a2 : Int32) (s0 : Int32) (v : VV) (H : Heap) (locs : List Loc) (ls : Array Slot) (hw : b_X10_arriveReceipt_98 p1 Q  a1 a2 s0 v) : lv_has ls 6 [(0, .ref (base + 816)), (1, .int a1), (2, .int a2)] → va_P (dC, dI) vwCl (Wd base cy rf v 874) H → va_S (fun q => base ≤ q) s.heap H locs → W p l e { frames := 4, cells := 0, slots := 0, locals := 90 } s m args below meth c H locs 0 0 QQ (F0 m 98 ls [.int s0]) := by
  intro hl hP hS
  refine lv_istore_n (lv' := [(3, .int s0), (0, .ref (base + 816)), (1, .int a1), (2, .int a2)]) hx hb dX10_arriveReceipt_98 rfl hl (by decide) rfl (fun ls hl => ?_)
  refine lv_bipush (v := 40) hx hb dX10_arriveReceipt_99 (by decide) ?_
  refine lv_iload_n hx hb dX10_arriveReceipt_101 rfl (lv_at hl 2 rfl) ?_
  refine lv_imul hx hb dX10_arriveReceipt_102 ?_
  refine lv_topi (fun x102 ex102 => ?_)
  have hw := hw x102 ex102
  refine lv_iload_n hx hb dX10_arriveReceipt_103 rfl (lv_at hl 0 rfl) ?_
  refine lv_iadd hx hb dX10_arriveReceipt_104 ?_
  refine lv_topi (fun x104 ex104 => ?_)
  have hw := hw x104 ex104
  refine lv_istore (lv' := [(4, .int x104), (3, .int s0), (0, .ref (base + 816)), (1, .int a1), (2, .int a2)]) hx hb dX10_arriveReceipt_105 hl (by decide) rfl (fun ls hl => ?_)
  obtain ⟨fu, hw⟩ := hw
  exact tb_X10_arriveReceipt_107 hx hb hml hown hts hK p1 _ hret  fu a1 a2 s0 x104 v _ _ _ hw (lv_sub hl [2, 3, 4, 1, 0] rfl) hP hS
def w_X10_arriveReceipt (p1 : Int32) (v : VV) (Q : VV → Prop) : Prop :=
  ∀ x5 : Int32, x5 = v 872 (Int32.toNatClampNeg 4) → vp_in p1 2 ∧ ∀ x11 : Int32, x11 = v 839 (Int32.toNatClampNeg p1) → ∀ x12 : Int32, x12 = x5 - x11 → w_X10_mod x12 v (fun (x13 : Int32) (v2 : VV) => vp_in p1 2 ∧ ∀ x22 : Int32, x22 = v2 817 (Int32.toNatClampNeg p1) → (¬ x22 = 2 → Q v2) ∧ (x22 = 2 → vp_in p1 2 ∧ ∀ x33 : Int32, x33 = v2 838 (Int32.toNatClampNeg p1) → vp_in p1 2 ∧ ∀ x39 : Int32, x39 = v2 839 (Int32.toNatClampNeg p1) → ∀ x40 : Int32, x40 = x33 - x39 → w_X10_mod x40 v2 (fun (x41 : Int32) (v6 : VV) => (x13 ≤ x41 → ∀ x58 : Int32, x58 = v6 872 (Int32.toNatClampNeg 4) → w_X10_mod x58 v6 (fun (x59 : Int32) (v7 : VV) => vp_in p1 2 ∧ ∀ v8 : VV, v8 = up2 v7 839 (Int32.toNatClampNeg p1) x59 → ∀ x73 : Int32, x73 = v8 872 (Int32.toNatClampNeg 1) → ∀ x76 : Int32, x76 = x73 &&& 15 → vp_in p1 2 ∧ ∀ v10 : VV, v10 = up2 v8 840 (Int32.toNatClampNeg p1) x76 → vp_in p1 2 ∧ ∀ x84 : Int32, x84 = v10 831 (Int32.toNatClampNeg p1) → (x84 ≤ x13 → vp_in p1 2 ∧ ∀ x97 : Int32, x97 = v10 831 (Int32.toNatClampNeg p1) → b_X10_arriveReceipt_98 p1 Q  p1 x13 x97 v10) ∧ (¬ x84 ≤ x13 → b_X10_arriveReceipt_98 p1 Q  p1 x13 x13 v10))) ∧ (¬ x13 ≤ x41 → Q v6))))
set_option maxHeartbeats 4000000 in
set_option maxRecDepth 100000 in
/-- TransportFourModel.arriveReceipt -/
theorem t_X10_arriveReceipt (l : Launch) (dC : Nat → ClassId) (dI : Nat → Nat → Nat) (base : Nat) (cy : Nat → ClassId) (p1 : Int32) (v : VV) (Q : VV → Prop) (hw : w_X10_arriveReceipt p1 v Q) : CV l yX10_arriveReceipt (.code yX10_arriveReceipt cX10_arriveReceipt 6 none :: TB) { frames := 4, cells := 0, slots := 0, locals := 90 } dC dI base cy [.ref (base + 816), .int p1] v Q := by
  refine Met.ofW (cc := cX10_arriveReceipt) (maxL := 6) (ret := none) (by decide) rfl ?_
  intro p e s m args below meth c s₁ B hml hv
  obtain ⟨rfl, hP, hK⟩ := hv
  have hx := B.exec
  have hb := B.bytes
  have hr := B.returns
  have hts0 := atoms_spec (ws := (.code yX10_arriveReceipt cX10_arriveReceipt 6 none :: TB)) B.pre
  have hts : ∀ w ∈ TB, w.before ([.ref (base + 816), .int p1]).toArray s = true := fun w h => hts0 w (List.mem_cons_of_mem _ h)
  have hown : s.vm.findClass RX10 = some m.cls := findClass_of_methodNamed B.named
  have hlocks := B.notSynchronized
  have hS : va_S (fun q => base ≤ q) s.heap s.heap [] := va_S.rf
  have hl := lv_entry ([.ref (base + 816), .int p1]) (n := 6) (Nat.le_of_ble_eq_true rfl)
  rw [lg_entry_eq]
  generalize (lg_sl ([.ref (base + 816), .int p1]) ++ List.replicate (6 - (lg_sl ([.ref (base + 816), .int p1])).length) Slot.unset).toArray = ls at hl ⊢
  have hl : lv_has ls 6 [(0, .ref (base + 816)), (1, .int p1)] := hl
  have hret : ∀ (pc : Nat) (v : VV) (H : Heap) (locs : List Loc) (ls : Array Slot), decode cX10_arriveReceipt pc = .ok (.return_, 1) → Q v → va_P (dC, dI) vwCl (Wd base cy rf v 874) H → va_S (fun q => base ≤ q) s.heap H locs → W p l e { frames := 4, cells := 0, slots := 0, locals := 90 } s m ([.ref (base + 816), .int p1]).toArray below meth c H locs 0 0 (MQ below (va_Qv Q (Hp dC dI base cy) (fun q => base ≤ q)) ([.ref (base + 816), .int p1]).toArray s 0 0 (fun q => base ≤ q)) (F0 m pc ls []) := fun pc v H locs ls hd hq hP hS => W.vret hx hb hr (fun t ht hW => ⟨⟨v, rfl, hq, by rw [ht]; exact hP, va_K.moved hW.alike hK⟩, hS.F ht⟩) hS.2.2 hd
  refine lv_aload_n hx hb dX10_arriveReceipt_0 rfl (lv_at hl 0 rfl) ?_
  refine w_gR (C := RX10) (T := TX10) (N := 64) (ci := 10) hx hb hts in10 hown hK hP 60 th10.1 th10 rfl (by decide) (ch10_60 th10).1 (hts _ mf_X10_177) dX10_arriveReceipt_1 ?_
  refine lv_iconst (v := 4) hx hb dX10_arriveReceipt_4 (by decide) ?_
  refine w_ia (N := 20) hx hb hK hP (ch10_60 th10).2.1.1 (ch10_60 th10).2.1 (ch10_60 th10).2.2 (vp_in_nI (n := 4) (by decide) (by decide)) dX10_arriveReceipt_5 ?_
  refine lv_topi (fun x5 ex5 => ?_)
  have hw := hw x5 ex5
  refine lv_aload_n hx hb dX10_arriveReceipt_6 rfl (lv_at hl 0 rfl) ?_
  refine w_gR (C := RX10) (T := TX10) (N := 64) (ci := 10) hx hb hts in10 hown hK hP 23 th10.1 th10 rfl (by decide) (ch10_23 th10).1 (hts _ mf_X10_77) dX10_arriveReceipt_7 ?_
  refine lv_iload_n hx hb dX10_arriveReceipt_10 rfl (lv_at hl 1 rfl) ?_
  obtain ⟨hi1, hw⟩ := hw
  refine w_ia (N := 2) hx hb hK hP (ch10_23 th10).2.1.1 (ch10_23 th10).2.1 (ch10_23 th10).2.2 hi1 dX10_arriveReceipt_11 ?_
  refine lv_topi (fun x11 ex11 => ?_)
  have hw := hw x11 ex11
  refine lv_isub hx hb dX10_arriveReceipt_12 ?_
  refine lv_topi (fun x12 ex12 => ?_)
  have hw := hw x12 ex12
  refine kS_I (As := [.int x12]) (rest := []) ⟨hx, hb, hml, hown, hts⟩ (t_X10_mod l dC dI base cy x12 v _ hw) (cwS 1 hts (gS ml_X10_221 mt_X10_mod mn_X10 mo_X10_mod) rfl rfl rfl (by decide +kernel) ⟨by decide, by decide⟩) hK hP hS rfl hl.1 rfl (Nat.le_of_ble_eq_true rfl) dX10_arriveReceipt_13 ⟨Nat.zero_le _, Nat.zero_le _⟩ (fun x13 v2 H locs hw hP hS => ?_)
  refine lv_istore_n (lv' := [(2, .int x13), (0, .ref (base + 816)), (1, .int p1)]) hx hb dX10_arriveReceipt_16 rfl hl (by decide) rfl (fun ls hl => ?_)
  refine lv_aload_n hx hb dX10_arriveReceipt_17 rfl (lv_at hl 1 rfl) ?_
  refine w_gR (C := RX10) (T := TX10) (N := 64) (ci := 10) hx hb hts in10 hown hK hP 1 th10.1 th10 rfl (by decide) (ch10_1 th10).1 (hts _ mf_X10_7) dX10_arriveReceipt_18 ?_
  refine lv_iload_n hx hb dX10_arriveReceipt_21 rfl (lv_at hl 2 rfl) ?_
  obtain ⟨hi3, hw⟩ := hw
  refine w_ia (N := 2) hx hb hK hP (ch10_1 th10).2.1.1 (ch10_1 th10).2.1 (ch10_1 th10).2.2 hi3 dX10_arriveReceipt_22 ?_
  refine lv_topi (fun x22 ex22 => ?_)
  have hw := hw x22 ex22
  refine lv_iconst (v := 2) hx hb dX10_arriveReceipt_23 (by decide) ?_
  refine lv_icmp_ne (tgt := 47) hx hb dX10_arriveReceipt_24 (by decide) (fun c24 => ?_) (fun c24 => ?_)
  · have hw := hw.1 c24
    exact hret _ _ _ _ _ dX10_arriveReceipt_47 hw hP hS
  · have hw := hw.2 c24
    refine lv_iload_n hx hb dX10_arriveReceipt_27 rfl (lv_at hl 0 rfl) ?_
    refine lv_aload_n hx hb dX10_arriveReceipt_28 rfl (lv_at hl 1 rfl) ?_
    refine w_gR (C := RX10) (T := TX10) (N := 64) (ci := 10) hx hb hts in10 hown hK hP 22 th10.1 th10 rfl (by decide) (ch10_22 th10).1 (hts _ mf_X10_74) dX10_arriveReceipt_29 ?_
    refine lv_iload_n hx hb dX10_arriveReceipt_32 rfl (lv_at hl 2 rfl) ?_
    obtain ⟨hi4, hw⟩ := hw
    refine w_ia (N := 2) hx hb hK hP (ch10_22 th10).2.1.1 (ch10_22 th10).2.1 (ch10_22 th10).2.2 hi4 dX10_arriveReceipt_33 ?_
    refine lv_topi (fun x33 ex33 => ?_)
    have hw := hw x33 ex33
    refine lv_aload_n hx hb dX10_arriveReceipt_34 rfl (lv_at hl 1 rfl) ?_
    refine w_gR (C := RX10) (T := TX10) (N := 64) (ci := 10) hx hb hts in10 hown hK hP 23 th10.1 th10 rfl (by decide) (ch10_23 th10).1 (hts _ mf_X10_77) dX10_arriveReceipt_35 ?_
    refine lv_iload_n hx hb dX10_arriveReceipt_38 rfl (lv_at hl 2 rfl) ?_
    obtain ⟨hi5, hw⟩ := hw
    refine w_ia (N := 2) hx hb hK hP (ch10_23 th10).2.1.1 (ch10_23 th10).2.1 (ch10_23 th10).2.2 hi5 dX10_arriveReceipt_39 ?_
    refine lv_topi (fun x39 ex39 => ?_)
    have hw := hw x39 ex39
    refine lv_isub hx hb dX10_arriveReceipt_40 ?_
    refine lv_topi (fun x40 ex40 => ?_)
    have hw := hw x40 ex40
    refine kS_I (As := [.int x40]) (rest := [.int x13]) ⟨hx, hb, hml, hown, hts⟩ (t_X10_mod l dC dI base cy x40 v2 _ hw) (cwS 1 hts (gS ml_X10_221 mt_X10_mod mn_X10 mo_X10_mod) rfl rfl rfl (by decide +kernel) ⟨by decide, by decide⟩) hK hP hS rfl hl.1 rfl (Nat.le_of_ble_eq_true rfl) dX10_arriveReceipt_41 ⟨Nat.zero_le _, Nat.zero_le _⟩ (fun x41 v6 H locs hw hP hS => ?_)
    refine lv_icmp_le (tgt := 48) hx hb dX10_arriveReceipt_44 (by decide) (fun c44 => ?_) (fun c44 => ?_)
    · have hw := hw.1 c44
      refine lv_aload_n hx hb dX10_arriveReceipt_48 rfl (lv_at hl 1 rfl) ?_
      refine w_gR (C := RX10) (T := TX10) (N := 64) (ci := 10) hx hb hts in10 hown hK hP 23 th10.1 th10 rfl (by decide) (ch10_23 th10).1 (hts _ mf_X10_77) dX10_arriveReceipt_49 ?_
      refine lv_iload_n hx hb dX10_arriveReceipt_52 rfl (lv_at hl 2 rfl) ?_
      refine lv_aload_n hx hb dX10_arriveReceipt_53 rfl (lv_at hl 1 rfl) ?_
      refine w_gR (C := RX10) (T := TX10) (N := 64) (ci := 10) hx hb hts in10 hown hK hP 60 th10.1 th10 rfl (by decide) (ch10_60 th10).1 (hts _ mf_X10_177) dX10_arriveReceipt_54 ?_
      refine lv_iconst (v := 4) hx hb dX10_arriveReceipt_57 (by decide) ?_
      refine w_ia (N := 20) hx hb hK hP (ch10_60 th10).2.1.1 (ch10_60 th10).2.1 (ch10_60 th10).2.2 (vp_in_nI (n := 4) (by decide) (by decide)) dX10_arriveReceipt_58 ?_
      refine lv_topi (fun x58 ex58 => ?_)
      have hw := hw x58 ex58
      refine kS_I (As := [.int x58]) (rest := [.int p1, .ref (base + 839)]) ⟨hx, hb, hml, hown, hts⟩ (t_X10_mod l dC dI base cy x58 v6 _ hw) (cwS 1 hts (gS ml_X10_221 mt_X10_mod mn_X10 mo_X10_mod) rfl rfl rfl (by decide +kernel) ⟨by decide, by decide⟩) hK hP hS rfl hl.1 rfl (Nat.le_of_ble_eq_true rfl) dX10_arriveReceipt_59 ⟨Nat.zero_le _, Nat.zero_le _⟩ (fun x59 v7 H locs hw hP hS => ?_)
      obtain ⟨hi9, hw⟩ := hw
      refine w_is (N := 2) hx hb hK hP hS (ch10_23 th10).2.1.1 (ch10_23 th10).2.1 (ch10_23 th10).2.2 hi9 dX10_arriveReceipt_62 (fun v8 H locs hv8 hP hz hS => ?_)
      have hw := hw v8 hv8
      refine lv_aload_n hx hb dX10_arriveReceipt_63 rfl (lv_at hl 1 rfl) ?_
      refine w_gR (C := RX10) (T := TX10) (N := 64) (ci := 10) hx hb hts in10 hown hK hP 24 th10.1 th10 rfl (by decide) (ch10_24 th10).1 (hts _ mf_X10_80) dX10_arriveReceipt_64 ?_
      refine lv_iload_n hx hb dX10_arriveReceipt_67 rfl (lv_at hl 2 rfl) ?_
      refine lv_aload_n hx hb dX10_arriveReceipt_68 rfl (lv_at hl 1 rfl) ?_
      refine w_gR (C := RX10) (T := TX10) (N := 64) (ci := 10) hx hb hts in10 hown hK hP 60 th10.1 th10 rfl (by decide) (ch10_60 th10).1 (hts _ mf_X10_177) dX10_arriveReceipt_69 ?_
      refine lv_iconst (v := 1) hx hb dX10_arriveReceipt_72 (by decide) ?_
      refine w_ia (N := 20) hx hb hK hP (ch10_60 th10).2.1.1 (ch10_60 th10).2.1 (ch10_60 th10).2.2 (vp_in_nI (n := 1) (by decide) (by decide)) dX10_arriveReceipt_73 ?_
      refine lv_topi (fun x73 ex73 => ?_)
      have hw := hw x73 ex73
      refine lv_bipush (v := 15) hx hb dX10_arriveReceipt_74 (by decide) ?_
      refine lv_iand hx hb dX10_arriveReceipt_76 ?_
      refine lv_topi (fun x76 ex76 => ?_)
      have hw := hw x76 ex76
      obtain ⟨hi11, hw⟩ := hw
      refine w_is (N := 2) hx hb hK hP hS (ch10_24 th10).2.1.1 (ch10_24 th10).2.1 (ch10_24 th10).2.2 hi11 dX10_arriveReceipt_77 (fun v10 H locs hv10 hP hz hS => ?_)
      have hw := hw v10 hv10
      refine lv_iload_n hx hb dX10_arriveReceipt_78 rfl (lv_at hl 0 rfl) ?_
      refine lv_aload_n hx hb dX10_arriveReceipt_79 rfl (lv_at hl 1 rfl) ?_
      refine w_gR (C := RX10) (T := TX10) (N := 64) (ci := 10) hx hb hts in10 hown hK hP 15 th10.1 th10 rfl (by decide) (ch10_15 th10).1 (hts _ mf_X10_53) dX10_arriveReceipt_80 ?_
      refine lv_iload_n hx hb dX10_arriveReceipt_83 rfl (lv_at hl 2 rfl) ?_
      obtain ⟨hi12, hw⟩ := hw
      refine w_ia (N := 2) hx hb hK hP (ch10_15 th10).2.1.1 (ch10_15 th10).2.1 (ch10_15 th10).2.2 hi12 dX10_arriveReceipt_84 ?_
      refine lv_topi (fun x84 ex84 => ?_)
      have hw := hw x84 ex84
      refine lv_icmp_ge (tgt := 92) hx hb dX10_arriveReceipt_85 (by decide) (fun c85 => ?_) (fun c85 => ?_)
      · have hw := hw.1 c85
        refine lv_aload_n hx hb dX10_arriveReceipt_92 rfl (lv_at hl 1 rfl) ?_
        refine w_gR (C := RX10) (T := TX10) (N := 64) (ci := 10) hx hb hts in10 hown hK hP 15 th10.1 th10 rfl (by decide) (ch10_15 th10).1 (hts _ mf_X10_53) dX10_arriveReceipt_93 ?_
        refine lv_iload_n hx hb dX10_arriveReceipt_96 rfl (lv_at hl 2 rfl) ?_
        obtain ⟨hi13, hw⟩ := hw
        refine w_ia (N := 2) hx hb hK hP (ch10_15 th10).2.1.1 (ch10_15 th10).2.1 (ch10_15 th10).2.2 hi13 dX10_arriveReceipt_97 ?_
        refine lv_topi (fun x97 ex97 => ?_)
        have hw := hw x97 ex97
        exact tb_X10_arriveReceipt_98 hx hb hml hown hts hK p1 _ hret  p1 x13 x97 v10 _ _ _ hw (lv_sub hl [1, 2, 0] rfl) hP hS
      · have hw := hw.2 c85
        refine lv_iload_n hx hb dX10_arriveReceipt_88 rfl (lv_at hl 0 rfl) ?_
        refine lv_goto (tgt := 98) hx hb dX10_arriveReceipt_89 (by decide) ?_
        exact tb_X10_arriveReceipt_98 hx hb hml hown hts hK p1 _ hret  p1 x13 x13 v10 _ _ _ hw (lv_sub hl [1, 2, 0] rfl) hP hS
    · have hw := hw.2 c44
      exact hret _ _ _ _ _ dX10_arriveReceipt_47 hw hP hS
