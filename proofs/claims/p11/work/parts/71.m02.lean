def b_X10_fresh_108 (p1 : Int32) (Q : VV → Prop) (fu : Nat) : Int32 → Int32 → VV → Prop :=
  Nat.rec (motive := fun _ => Int32 → Int32 → VV → Prop) (fun _ _ _ => False) (fun _ ih a1 a2 v => (128 ≤ a2 → vp_in a1 2 ∧ ∀ v1 : VV, v1 = up2 v 851 (Int32.toNatClampNeg a1) 0 → vp_in a1 2 ∧ ∀ v3 : VV, v3 = up2 v1 852 (Int32.toNatClampNeg a1) 0 → vp_in a1 2 ∧ ∀ v5 : VV, v5 = up2 v3 854 (Int32.toNatClampNeg a1) 0 → vp_in a1 2 ∧ ∀ v7 : VV, v7 = up2 v5 858 (Int32.toNatClampNeg a1) 0 → vp_in a1 2 ∧ ∀ v9 : VV, v9 = up2 v7 861 (Int32.toNatClampNeg a1) 0 → vp_in a1 2 ∧ ∀ v11 : VV, v11 = up2 v9 819 (Int32.toNatClampNeg a1) 0 → ∀ x182 : Int32, x182 = v11 816 0 → vp_in a1 2 ∧ ∀ v13 : VV, v13 = up2 v11 824 (Int32.toNatClampNeg a1) x182 → Q v13) ∧ (¬ 128 ≤ a2 → ∀ x123 : Int32, x123 = 128 * a1 → ∀ x125 : Int32, x125 = x123 + a2 → vp_in x125 256 ∧ ∀ v15 : VV, v15 = up2 v 848 (Int32.toNatClampNeg x125) ((-1)) → ∀ x128 : Int32, x128 = a2 + 1 → ih a1 x128 v15)) fu
set_option maxHeartbeats 4000000 in
set_option maxRecDepth 100000 in
theorem tb_X10_fresh_108 {p : Program} {l : Launch} {e : Env} {s : State} {m : MethodId} {args : Array Value} {below : List Frame} {meth : Method} {c : Code} {QQ : State → Prop} {dC : Nat → ClassId} {dI : Nat → Nat → Nat} {base : Nat} {cy : Nat → ClassId} (hx : p.tables.exec = Jvm.exec) (hb : c.code = cX10_fresh) (hml : c.maxLocals = 3) (hown : s.vm.findClass RX10 = some m.cls) (hts : ∀ w ∈ TB, w.before args s = true) (hK : va_K (dC, dI) vwCl (tyL cy) s) (p1 : Int32) (Q : VV → Prop) (hret : ∀ (pc : Nat) (v : VV) (H : Heap) (locs : List Loc) (ls : Array Slot), decode cX10_fresh pc = .ok (.return_, 1) → Q v → va_P (dC, dI) vwCl (Wd base cy rf v 874) H → va_S (fun q => base ≤ q) s.heap H locs → W p l e { frames := 0, cells := 0, slots := 0, locals := 0 } s m args below meth c H locs 0 0 QQ (F0 m pc ls [])) : ∀ (fu : Nat) (a1 : Int32) (a2 : Int32) (v : VV) (H : Heap) (locs : List Loc) (ls : Array Slot), b_X10_fresh_108 p1 Q  fu a1 a2 v → lv_has ls 3 [(0, .ref (base + 816)), (1, .int a1), (2, .int a2)] → va_P (dC, dI) vwCl (Wd base cy rf v 874) H → va_S (fun q => base ≤ q) s.heap H locs → W p l e { frames := 0, cells := 0, slots := 0, locals := 0 } s m args below meth c H locs 0 0 QQ (F0 m 108 ls []) := by
  intro fu
  induction fu with
  | zero =>
    intro a1 a2 v H locs ls hw hl hP hS
    exact hw.elim
  | succ fu ih =>
    intro a1 a2 v H locs ls hw hl hP hS
    refine lv_iload_n hx hb dX10_fresh_108 rfl (lv_at hl 2 rfl) ?_
    refine lv_sipush (v := 128) hx hb dX10_fresh_109 (by decide) ?_
    refine lv_icmp_ge (tgt := 134) hx hb dX10_fresh_112 (by decide) (fun c112 => ?_) (fun c112 => ?_)
    · have hw := hw.1 c112
      refine lv_aload_n hx hb dX10_fresh_134 rfl (lv_at hl 0 rfl) ?_
      refine w_gR (C := RX10) (T := TX10) (N := 64) (ci := 10) hx hb hts in10 hown hK hP 35 th10.1 th10 rfl (by decide) (ch10_35 th10).1 (hts _ mf_X10_113) dX10_fresh_135 ?_
      refine lv_iload_n hx hb dX10_fresh_138 rfl (lv_at hl 1 rfl) ?_
      refine lv_iconst (v := 0) hx hb dX10_fresh_139 (by decide) ?_
      obtain ⟨hi2, hw⟩ := hw
      refine w_is (N := 2) hx hb hK hP hS (ch10_35 th10).2.1.1 (ch10_35 th10).2.1 (ch10_35 th10).2.2 hi2 dX10_fresh_140 (fun v1 H locs hv1 hP hz hS => ?_)
      have hw := hw v1 hv1
      refine lv_aload_n hx hb dX10_fresh_141 rfl (lv_at hl 0 rfl) ?_
      refine w_gR (C := RX10) (T := TX10) (N := 64) (ci := 10) hx hb hts in10 hown hK hP 36 th10.1 th10 rfl (by decide) (ch10_36 th10).1 (hts _ mf_X10_116) dX10_fresh_142 ?_
      refine lv_iload_n hx hb dX10_fresh_145 rfl (lv_at hl 1 rfl) ?_
      refine lv_iconst (v := 0) hx hb dX10_fresh_146 (by decide) ?_
      obtain ⟨hi4, hw⟩ := hw
      refine w_is (N := 2) hx hb hK hP hS (ch10_36 th10).2.1.1 (ch10_36 th10).2.1 (ch10_36 th10).2.2 hi4 dX10_fresh_147 (fun v3 H locs hv3 hP hz hS => ?_)
      have hw := hw v3 hv3
      refine lv_aload_n hx hb dX10_fresh_148 rfl (lv_at hl 0 rfl) ?_
      refine w_gR (C := RX10) (T := TX10) (N := 64) (ci := 10) hx hb hts in10 hown hK hP 38 th10.1 th10 rfl (by decide) (ch10_38 th10).1 (hts _ mf_X10_122) dX10_fresh_149 ?_
      refine lv_iload_n hx hb dX10_fresh_152 rfl (lv_at hl 1 rfl) ?_
      refine lv_iconst (v := 0) hx hb dX10_fresh_153 (by decide) ?_
      obtain ⟨hi6, hw⟩ := hw
      refine w_is (N := 2) hx hb hK hP hS (ch10_38 th10).2.1.1 (ch10_38 th10).2.1 (ch10_38 th10).2.2 hi6 dX10_fresh_154 (fun v5 H locs hv5 hP hz hS => ?_)
      have hw := hw v5 hv5
      refine lv_aload_n hx hb dX10_fresh_155 rfl (lv_at hl 0 rfl) ?_
      refine w_gR (C := RX10) (T := TX10) (N := 64) (ci := 10) hx hb hts in10 hown hK hP 42 th10.1 th10 rfl (by decide) (ch10_42 th10).1 (hts _ mf_X10_134) dX10_fresh_156 ?_
      refine lv_iload_n hx hb dX10_fresh_159 rfl (lv_at hl 1 rfl) ?_
      refine lv_iconst (v := 0) hx hb dX10_fresh_160 (by decide) ?_
      obtain ⟨hi8, hw⟩ := hw
      refine w_is (N := 2) hx hb hK hP hS (ch10_42 th10).2.1.1 (ch10_42 th10).2.1 (ch10_42 th10).2.2 hi8 dX10_fresh_161 (fun v7 H locs hv7 hP hz hS => ?_)
      have hw := hw v7 hv7
      refine lv_aload_n hx hb dX10_fresh_162 rfl (lv_at hl 0 rfl) ?_
      refine w_gR (C := RX10) (T := TX10) (N := 64) (ci := 10) hx hb hts in10 hown hK hP 45 th10.1 th10 rfl (by decide) (ch10_45 th10).1 (hts _ mf_X10_143) dX10_fresh_163 ?_
      refine lv_iload_n hx hb dX10_fresh_166 rfl (lv_at hl 1 rfl) ?_
      refine lv_iconst (v := 0) hx hb dX10_fresh_167 (by decide) ?_
      obtain ⟨hi10, hw⟩ := hw
      refine w_is (N := 2) hx hb hK hP hS (ch10_45 th10).2.1.1 (ch10_45 th10).2.1 (ch10_45 th10).2.2 hi10 dX10_fresh_168 (fun v9 H locs hv9 hP hz hS => ?_)
      have hw := hw v9 hv9
      refine lv_aload_n hx hb dX10_fresh_169 rfl (lv_at hl 0 rfl) ?_
      refine w_gR (C := RX10) (T := TX10) (N := 64) (ci := 10) hx hb hts in10 hown hK hP 3 th10.1 th10 rfl (by decide) (ch10_3 th10).1 (hts _ mf_X10_16) dX10_fresh_170 ?_
      refine lv_iload_n hx hb dX10_fresh_173 rfl (lv_at hl 1 rfl) ?_
      refine lv_iconst (v := 0) hx hb dX10_fresh_174 (by decide) ?_
      obtain ⟨hi12, hw⟩ := hw
      refine w_is (N := 2) hx hb hK hP hS (ch10_3 th10).2.1.1 (ch10_3 th10).2.1 (ch10_3 th10).2.2 hi12 dX10_fresh_175 (fun v11 H locs hv11 hP hz hS => ?_)
      have hw := hw v11 hv11
      refine lv_aload_n hx hb dX10_fresh_176 rfl (lv_at hl 0 rfl) ?_
      refine w_gR (C := RX10) (T := TX10) (N := 64) (ci := 10) hx hb hts in10 hown hK hP 8 th10.1 th10 rfl (by decide) (ch10_8 th10).1 (hts _ mf_X10_32) dX10_fresh_177 ?_
      refine lv_iload_n hx hb dX10_fresh_180 rfl (lv_at hl 1 rfl) ?_
      refine lv_aload_n hx hb dX10_fresh_181 rfl (lv_at hl 0 rfl) ?_
      refine w_gI (C := RX10) (T := TX10) (N := 64) (ci := 10) hx hb hts in10 hown hK hP 0 th10.1 th10 rfl (by decide) (hts _ mf_X10_198) dX10_fresh_182 ?_
      refine lv_topi (fun x182 ex182 => ?_)
      have hw := hw x182 ex182
      obtain ⟨hi14, hw⟩ := hw
      refine w_is (N := 2) hx hb hK hP hS (ch10_8 th10).2.1.1 (ch10_8 th10).2.1 (ch10_8 th10).2.2 hi14 dX10_fresh_185 (fun v13 H locs hv13 hP hz hS => ?_)
      have hw := hw v13 hv13
      exact hret _ _ _ _ _ dX10_fresh_186 hw hP hS
    · have hw := hw.2 c112
      refine lv_aload_n hx hb dX10_fresh_115 rfl (lv_at hl 0 rfl) ?_
      refine w_gR (C := RX10) (T := TX10) (N := 64) (ci := 10) hx hb hts in10 hown hK hP 32 th10.1 th10 rfl (by decide) (ch10_32 th10).1 (hts _ mf_X10_104) dX10_fresh_116 ?_
      refine lv_sipush (v := 128) hx hb dX10_fresh_119 (by decide) ?_
      refine lv_iload_n hx hb dX10_fresh_122 rfl (lv_at hl 1 rfl) ?_
      refine lv_imul hx hb dX10_fresh_123 ?_
      refine lv_topi (fun x123 ex123 => ?_)
      have hw := hw x123 ex123
      refine lv_iload_n hx hb dX10_fresh_124 rfl (lv_at hl 2 rfl) ?_
      refine lv_iadd hx hb dX10_fresh_125 ?_
      refine lv_topi (fun x125 ex125 => ?_)
      have hw := hw x125 ex125
      refine lv_iconst (v := -1) hx hb dX10_fresh_126 (by decide) ?_
      obtain ⟨hi16, hw⟩ := hw
      refine w_is (N := 256) hx hb hK hP hS (ch10_32 th10).2.1.1 (ch10_32 th10).2.1 (ch10_32 th10).2.2 hi16 dX10_fresh_127 (fun v15 H locs hv15 hP hz hS => ?_)
      have hw := hw v15 hv15
      obtain ⟨x128, ex128⟩ : ∃ y : Int32, y = a2 + 1 := ⟨_, rfl⟩
      have hw := hw x128 ex128
      refine lv_iinc (v := x128) (lv' := [(2, .int x128), (0, .ref (base + 816)), (1, .int a1)]) hx hb dX10_fresh_128 hl (k := 2) rfl (by rw [ex128]; first | rfl | (rw [show Int32.ofInt (-1) = (-1 : Int32) from by decide])) (by decide) rfl (fun ls hl => ?_)
      refine lv_goto (tgt := 108) hx hb dX10_fresh_131 (by decide) ?_
      exact ih a1 x128 v15 _ _ _ hw (lv_sub hl [1, 2, 0] rfl) hP hS
def b_X10_fresh_28 (p1 : Int32) (Q : VV → Prop) (a1 : Int32) (s0 : Int32) (s1 : Int32) (v : VV) : Prop :=
  vp_in s1 2 ∧ ∀ v1 : VV, v1 = up2 v 818 (Int32.toNatClampNeg s1) s0 → vp_in a1 2 ∧ ∀ v3 : VV, v3 = up2 v1 821 (Int32.toNatClampNeg a1) ((-1)) → vp_in a1 2 ∧ ∀ v5 : VV, v5 = up2 v3 830 (Int32.toNatClampNeg a1) 0 → vp_in a1 2 ∧ ∀ v7 : VV, v7 = up2 v5 831 (Int32.toNatClampNeg a1) 0 → vp_in a1 2 ∧ ∀ v9 : VV, v9 = up2 v7 838 (Int32.toNatClampNeg a1) 0 → vp_in a1 2 ∧ ∀ v11 : VV, v11 = up2 v9 839 (Int32.toNatClampNeg a1) 0 → vp_in a1 2 ∧ ∀ v13 : VV, v13 = up2 v11 840 (Int32.toNatClampNeg a1) 0 → vp_in a1 2 ∧ ∀ v15 : VV, v15 = up2 v13 841 (Int32.toNatClampNeg a1) 0 → vp_in a1 2 ∧ ∀ v17 : VV, v17 = up2 v15 843 (Int32.toNatClampNeg a1) 0 → vp_in a1 2 ∧ ∀ v19 : VV, v19 = up2 v17 844 (Int32.toNatClampNeg a1) 0 → vp_in a1 2 ∧ ∀ v21 : VV, v21 = up2 v19 846 (Int32.toNatClampNeg a1) 0 → vp_in a1 2 ∧ ∀ v23 : VV, v23 = up2 v21 847 (Int32.toNatClampNeg a1) 0 → ∃ fu : Nat, b_X10_fresh_108 p1 Q  fu a1 0 v23
set_option maxHeartbeats 4000000 in
set_option maxRecDepth 100000 in
theorem tb_X10_fresh_28 {p : Program} {l : Launch} {e : Env} {s : State} {m : MethodId} {args : Array Value} {below : List Frame} {meth : Method} {c : Code} {QQ : State → Prop} {dC : Nat → ClassId} {dI : Nat → Nat → Nat} {base : Nat} {cy : Nat → ClassId} (hx : p.tables.exec = Jvm.exec) (hb : c.code = cX10_fresh) (hml : c.maxLocals = 3) (hown : s.vm.findClass RX10 = some m.cls) (hts : ∀ w ∈ TB, w.before args s = true) (hK : va_K (dC, dI) vwCl (tyL cy) s) (p1 : Int32) (Q : VV → Prop) (hret : ∀ (pc : Nat) (v : VV) (H : Heap) (locs : List Loc) (ls : Array Slot), decode cX10_fresh pc = .ok (.return_, 1) → Q v → va_P (dC, dI) vwCl (Wd base cy rf v 874) H → va_S (fun q => base ≤ q) s.heap H locs → W p l e { frames := 0, cells := 0, slots := 0, locals := 0 } s m args below meth c H locs 0 0 QQ (F0 m pc ls [])) (a1 : Int32) (s0 : Int32) (s1 : Int32) (v : VV) (H : Heap) (locs : List Loc) (ls : Array Slot) (hw : b_X10_fresh_28 p1 Q  a1 s0 s1 v) : lv_has ls 3 [(0, .ref (base + 816)), (1, .int a1)] → va_P (dC, dI) vwCl (Wd base cy rf v 874) H → va_S (fun q => base ≤ q) s.heap H locs → W p l e { frames := 0, cells := 0, slots := 0, locals := 0 } s m args below meth c H locs 0 0 QQ (F0 m 28 ls [.int s0, .int s1, .ref (base + 818)]) := by
  intro hl hP hS
  obtain ⟨hi2, hw⟩ := hw
  refine w_is (N := 2) hx hb hK hP hS (ch10_2 th10).2.1.1 (ch10_2 th10).2.1 (ch10_2 th10).2.2 hi2 dX10_fresh_28 (fun v1 H locs hv1 hP hz hS => ?_)
  have hw := hw v1 hv1
  refine lv_aload_n hx hb dX10_fresh_29 rfl (lv_at hl 0 rfl) ?_
  refine w_gR (C := RX10) (T := TX10) (N := 64) (ci := 10) hx hb hts in10 hown hK hP 5 th10.1 th10 rfl (by decide) (ch10_5 th10).1 (hts _ mf_X10_23) dX10_fresh_30 ?_
  refine lv_iload_n hx hb dX10_fresh_33 rfl (lv_at hl 1 rfl) ?_
  refine lv_iconst (v := -1) hx hb dX10_fresh_34 (by decide) ?_
  obtain ⟨hi4, hw⟩ := hw
  refine w_is (N := 2) hx hb hK hP hS (ch10_5 th10).2.1.1 (ch10_5 th10).2.1 (ch10_5 th10).2.2 hi4 dX10_fresh_35 (fun v3 H locs hv3 hP hz hS => ?_)
  have hw := hw v3 hv3
  refine lv_aload_n hx hb dX10_fresh_36 rfl (lv_at hl 0 rfl) ?_
  refine w_gR (C := RX10) (T := TX10) (N := 64) (ci := 10) hx hb hts in10 hown hK hP 14 th10.1 th10 rfl (by decide) (ch10_14 th10).1 (hts _ mf_X10_50) dX10_fresh_37 ?_
  refine lv_iload_n hx hb dX10_fresh_40 rfl (lv_at hl 1 rfl) ?_
  refine lv_iconst (v := 0) hx hb dX10_fresh_41 (by decide) ?_
  obtain ⟨hi6, hw⟩ := hw
  refine w_is (N := 2) hx hb hK hP hS (ch10_14 th10).2.1.1 (ch10_14 th10).2.1 (ch10_14 th10).2.2 hi6 dX10_fresh_42 (fun v5 H locs hv5 hP hz hS => ?_)
  have hw := hw v5 hv5
  refine lv_aload_n hx hb dX10_fresh_43 rfl (lv_at hl 0 rfl) ?_
  refine w_gR (C := RX10) (T := TX10) (N := 64) (ci := 10) hx hb hts in10 hown hK hP 15 th10.1 th10 rfl (by decide) (ch10_15 th10).1 (hts _ mf_X10_53) dX10_fresh_44 ?_
  refine lv_iload_n hx hb dX10_fresh_47 rfl (lv_at hl 1 rfl) ?_
  refine lv_iconst (v := 0) hx hb dX10_fresh_48 (by decide) ?_
  obtain ⟨hi8, hw⟩ := hw
  refine w_is (N := 2) hx hb hK hP hS (ch10_15 th10).2.1.1 (ch10_15 th10).2.1 (ch10_15 th10).2.2 hi8 dX10_fresh_49 (fun v7 H locs hv7 hP hz hS => ?_)
  have hw := hw v7 hv7
  refine lv_aload_n hx hb dX10_fresh_50 rfl (lv_at hl 0 rfl) ?_
  refine w_gR (C := RX10) (T := TX10) (N := 64) (ci := 10) hx hb hts in10 hown hK hP 22 th10.1 th10 rfl (by decide) (ch10_22 th10).1 (hts _ mf_X10_74) dX10_fresh_51 ?_
  refine lv_iload_n hx hb dX10_fresh_54 rfl (lv_at hl 1 rfl) ?_
  refine lv_iconst (v := 0) hx hb dX10_fresh_55 (by decide) ?_
  obtain ⟨hi10, hw⟩ := hw
  refine w_is (N := 2) hx hb hK hP hS (ch10_22 th10).2.1.1 (ch10_22 th10).2.1 (ch10_22 th10).2.2 hi10 dX10_fresh_56 (fun v9 H locs hv9 hP hz hS => ?_)
  have hw := hw v9 hv9
  refine lv_aload_n hx hb dX10_fresh_57 rfl (lv_at hl 0 rfl) ?_
  refine w_gR (C := RX10) (T := TX10) (N := 64) (ci := 10) hx hb hts in10 hown hK hP 23 th10.1 th10 rfl (by decide) (ch10_23 th10).1 (hts _ mf_X10_77) dX10_fresh_58 ?_
  refine lv_iload_n hx hb dX10_fresh_61 rfl (lv_at hl 1 rfl) ?_
  refine lv_iconst (v := 0) hx hb dX10_fresh_62 (by decide) ?_
  obtain ⟨hi12, hw⟩ := hw
  refine w_is (N := 2) hx hb hK hP hS (ch10_23 th10).2.1.1 (ch10_23 th10).2.1 (ch10_23 th10).2.2 hi12 dX10_fresh_63 (fun v11 H locs hv11 hP hz hS => ?_)
  have hw := hw v11 hv11
  refine lv_aload_n hx hb dX10_fresh_64 rfl (lv_at hl 0 rfl) ?_
  refine w_gR (C := RX10) (T := TX10) (N := 64) (ci := 10) hx hb hts in10 hown hK hP 24 th10.1 th10 rfl (by decide) (ch10_24 th10).1 (hts _ mf_X10_80) dX10_fresh_65 ?_
  refine lv_iload_n hx hb dX10_fresh_68 rfl (lv_at hl 1 rfl) ?_
  refine lv_iconst (v := 0) hx hb dX10_fresh_69 (by decide) ?_
  obtain ⟨hi14, hw⟩ := hw
  refine w_is (N := 2) hx hb hK hP hS (ch10_24 th10).2.1.1 (ch10_24 th10).2.1 (ch10_24 th10).2.2 hi14 dX10_fresh_70 (fun v13 H locs hv13 hP hz hS => ?_)
  have hw := hw v13 hv13
  refine lv_aload_n hx hb dX10_fresh_71 rfl (lv_at hl 0 rfl) ?_
  refine w_gR (C := RX10) (T := TX10) (N := 64) (ci := 10) hx hb hts in10 hown hK hP 25 th10.1 th10 rfl (by decide) (ch10_25 th10).1 (hts _ mf_X10_83) dX10_fresh_72 ?_
  refine lv_iload_n hx hb dX10_fresh_75 rfl (lv_at hl 1 rfl) ?_
  refine lv_iconst (v := 0) hx hb dX10_fresh_76 (by decide) ?_
  obtain ⟨hi16, hw⟩ := hw
  refine w_is (N := 2) hx hb hK hP hS (ch10_25 th10).2.1.1 (ch10_25 th10).2.1 (ch10_25 th10).2.2 hi16 dX10_fresh_77 (fun v15 H locs hv15 hP hz hS => ?_)
  have hw := hw v15 hv15
  refine lv_aload_n hx hb dX10_fresh_78 rfl (lv_at hl 0 rfl) ?_
  refine w_gR (C := RX10) (T := TX10) (N := 64) (ci := 10) hx hb hts in10 hown hK hP 27 th10.1 th10 rfl (by decide) (ch10_27 th10).1 (hts _ mf_X10_89) dX10_fresh_79 ?_
  refine lv_iload_n hx hb dX10_fresh_82 rfl (lv_at hl 1 rfl) ?_
  refine lv_iconst (v := 0) hx hb dX10_fresh_83 (by decide) ?_
  obtain ⟨hi18, hw⟩ := hw
  refine w_is (N := 2) hx hb hK hP hS (ch10_27 th10).2.1.1 (ch10_27 th10).2.1 (ch10_27 th10).2.2 hi18 dX10_fresh_84 (fun v17 H locs hv17 hP hz hS => ?_)
  have hw := hw v17 hv17
  refine lv_aload_n hx hb dX10_fresh_85 rfl (lv_at hl 0 rfl) ?_
  refine w_gR (C := RX10) (T := TX10) (N := 64) (ci := 10) hx hb hts in10 hown hK hP 28 th10.1 th10 rfl (by decide) (ch10_28 th10).1 (hts _ mf_X10_92) dX10_fresh_86 ?_
  refine lv_iload_n hx hb dX10_fresh_89 rfl (lv_at hl 1 rfl) ?_
  refine lv_iconst (v := 0) hx hb dX10_fresh_90 (by decide) ?_
  obtain ⟨hi20, hw⟩ := hw
  refine w_is (N := 2) hx hb hK hP hS (ch10_28 th10).2.1.1 (ch10_28 th10).2.1 (ch10_28 th10).2.2 hi20 dX10_fresh_91 (fun v19 H locs hv19 hP hz hS => ?_)
  have hw := hw v19 hv19
  refine lv_aload_n hx hb dX10_fresh_92 rfl (lv_at hl 0 rfl) ?_
  refine w_gR (C := RX10) (T := TX10) (N := 64) (ci := 10) hx hb hts in10 hown hK hP 30 th10.1 th10 rfl (by decide) (ch10_30 th10).1 (hts _ mf_X10_98) dX10_fresh_93 ?_
  refine lv_iload_n hx hb dX10_fresh_96 rfl (lv_at hl 1 rfl) ?_
  refine lv_iconst (v := 0) hx hb dX10_fresh_97 (by decide) ?_
  obtain ⟨hi22, hw⟩ := hw
  refine w_is (N := 2) hx hb hK hP hS (ch10_30 th10).2.1.1 (ch10_30 th10).2.1 (ch10_30 th10).2.2 hi22 dX10_fresh_98 (fun v21 H locs hv21 hP hz hS => ?_)
  have hw := hw v21 hv21
  refine lv_aload_n hx hb dX10_fresh_99 rfl (lv_at hl 0 rfl) ?_
  refine w_gR (C := RX10) (T := TX10) (N := 64) (ci := 10) hx hb hts in10 hown hK hP 31 th10.1 th10 rfl (by decide) (ch10_31 th10).1 (hts _ mf_X10_101) dX10_fresh_100 ?_
  refine lv_iload_n hx hb dX10_fresh_103 rfl (lv_at hl 1 rfl) ?_
  refine lv_iconst (v := 0) hx hb dX10_fresh_104 (by decide) ?_
  obtain ⟨hi24, hw⟩ := hw
  refine w_is (N := 2) hx hb hK hP hS (ch10_31 th10).2.1.1 (ch10_31 th10).2.1 (ch10_31 th10).2.2 hi24 dX10_fresh_105 (fun v23 H locs hv23 hP hz hS => ?_)
  have hw := hw v23 hv23
  refine lv_iconst (v := 0) hx hb dX10_fresh_106 (by decide) ?_
  refine lv_istore_n (lv' := [(2, .int 0), (0, .ref (base + 816)), (1, .int a1)]) hx hb dX10_fresh_107 rfl hl (by decide) rfl (fun ls hl => ?_)
  obtain ⟨fu, hw⟩ := hw
  exact tb_X10_fresh_108 hx hb hml hown hts hK p1 _ hret  fu a1 0 v23 _ _ _ hw (lv_sub hl [1, 2, 0] rfl) hP hS
def w_X10_fresh (p1 : Int32) (v : VV) (Q : VV → Prop) : Prop :=
  vp_in p1 2 ∧ ∀ x10 : Int32, x10 = v 818 (Int32.toNatClampNeg p1) → (¬ x10 = 65535 → vp_in p1 2 ∧ ∀ x25 : Int32, x25 = v 818 (Int32.toNatClampNeg p1) → ∀ x27 : Int32, x27 = x25 + 1 → b_X10_fresh_28 p1 Q  p1 x27 p1 v) ∧ (x10 = 65535 → b_X10_fresh_28 p1 Q  p1 1 p1 v)
set_option maxHeartbeats 4000000 in
set_option maxRecDepth 100000 in
/-- TransportFourModel.fresh -/
theorem t_X10_fresh (l : Launch) (dC : Nat → ClassId) (dI : Nat → Nat → Nat) (base : Nat) (cy : Nat → ClassId) (p1 : Int32) (v : VV) (Q : VV → Prop) (hw : w_X10_fresh p1 v Q) : CV l yX10_fresh (.code yX10_fresh cX10_fresh 3 none :: TB) { frames := 0, cells := 0, slots := 0, locals := 0 } dC dI base cy [.ref (base + 816), .int p1] v Q := by
  refine Met.ofW (cc := cX10_fresh) (maxL := 3) (ret := none) (by decide) rfl ?_
  intro p e s m args below meth c s₁ B hml hv
  obtain ⟨rfl, hP, hK⟩ := hv
  have hx := B.exec
  have hb := B.bytes
  have hr := B.returns
  have hts0 := atoms_spec (ws := (.code yX10_fresh cX10_fresh 3 none :: TB)) B.pre
  have hts : ∀ w ∈ TB, w.before ([.ref (base + 816), .int p1]).toArray s = true := fun w h => hts0 w (List.mem_cons_of_mem _ h)
  have hown : s.vm.findClass RX10 = some m.cls := findClass_of_methodNamed B.named
  have hlocks := B.notSynchronized
  have hS : va_S (fun q => base ≤ q) s.heap s.heap [] := va_S.rf
  have hl := lv_entry ([.ref (base + 816), .int p1]) (n := 3) (Nat.le_of_ble_eq_true rfl)
  rw [lg_entry_eq]
  generalize (lg_sl ([.ref (base + 816), .int p1]) ++ List.replicate (3 - (lg_sl ([.ref (base + 816), .int p1])).length) Slot.unset).toArray = ls at hl ⊢
  have hl : lv_has ls 3 [(0, .ref (base + 816)), (1, .int p1)] := hl
  have hret : ∀ (pc : Nat) (v : VV) (H : Heap) (locs : List Loc) (ls : Array Slot), decode cX10_fresh pc = .ok (.return_, 1) → Q v → va_P (dC, dI) vwCl (Wd base cy rf v 874) H → va_S (fun q => base ≤ q) s.heap H locs → W p l e { frames := 0, cells := 0, slots := 0, locals := 0 } s m ([.ref (base + 816), .int p1]).toArray below meth c H locs 0 0 (MQ below (va_Qv Q (Hp dC dI base cy) (fun q => base ≤ q)) ([.ref (base + 816), .int p1]).toArray s 0 0 (fun q => base ≤ q)) (F0 m pc ls []) := fun pc v H locs ls hd hq hP hS => W.vret hx hb hr (fun t ht hW => ⟨⟨v, rfl, hq, by rw [ht]; exact hP, va_K.moved hW.alike hK⟩, hS.F ht⟩) hS.2.2 hd
  refine lv_aload_n hx hb dX10_fresh_0 rfl (lv_at hl 0 rfl) ?_
  refine w_gR (C := RX10) (T := TX10) (N := 64) (ci := 10) hx hb hts in10 hown hK hP 2 th10.1 th10 rfl (by decide) (ch10_2 th10).1 (hts _ mf_X10_13) dX10_fresh_1 ?_
  refine lv_iload_n hx hb dX10_fresh_4 rfl (lv_at hl 1 rfl) ?_
  refine lv_aload_n hx hb dX10_fresh_5 rfl (lv_at hl 0 rfl) ?_
  refine w_gR (C := RX10) (T := TX10) (N := 64) (ci := 10) hx hb hts in10 hown hK hP 2 th10.1 th10 rfl (by decide) (ch10_2 th10).1 (hts _ mf_X10_13) dX10_fresh_6 ?_
  refine lv_iload_n hx hb dX10_fresh_9 rfl (lv_at hl 1 rfl) ?_
  obtain ⟨hi1, hw⟩ := hw
  refine w_ia (N := 2) hx hb hK hP (ch10_2 th10).2.1.1 (ch10_2 th10).2.1 (ch10_2 th10).2.2 hi1 dX10_fresh_10 ?_
  refine lv_topi (fun x10 ex10 => ?_)
  have hw := hw x10 ex10
  refine lv_ldc (v := 65535) hx hb hown (hts _ mk_X10_230) dX10_fresh_11 ?_
  refine lv_icmp_ne (tgt := 20) hx hb dX10_fresh_13 (by decide) (fun c13 => ?_) (fun c13 => ?_)
  · have hw := hw.1 c13
    refine lv_aload_n hx hb dX10_fresh_20 rfl (lv_at hl 0 rfl) ?_
    refine w_gR (C := RX10) (T := TX10) (N := 64) (ci := 10) hx hb hts in10 hown hK hP 2 th10.1 th10 rfl (by decide) (ch10_2 th10).1 (hts _ mf_X10_13) dX10_fresh_21 ?_
    refine lv_iload_n hx hb dX10_fresh_24 rfl (lv_at hl 1 rfl) ?_
    obtain ⟨hi2, hw⟩ := hw
    refine w_ia (N := 2) hx hb hK hP (ch10_2 th10).2.1.1 (ch10_2 th10).2.1 (ch10_2 th10).2.2 hi2 dX10_fresh_25 ?_
    refine lv_topi (fun x25 ex25 => ?_)
    have hw := hw x25 ex25
    refine lv_iconst (v := 1) hx hb dX10_fresh_26 (by decide) ?_
    refine lv_iadd hx hb dX10_fresh_27 ?_
    refine lv_topi (fun x27 ex27 => ?_)
    have hw := hw x27 ex27
    exact tb_X10_fresh_28 hx hb hml hown hts hK p1 _ hret  p1 x27 p1 v _ _ _ hw (lv_sub hl [0, 1] rfl) hP hS
  · have hw := hw.2 c13
    refine lv_iconst (v := 1) hx hb dX10_fresh_16 (by decide) ?_
    refine lv_goto (tgt := 28) hx hb dX10_fresh_17 (by decide) ?_
    exact tb_X10_fresh_28 hx hb hml hown hts hK p1 _ hret  p1 1 p1 v _ _ _ hw (lv_sub hl [0, 1] rfl) hP hS
def w_X10_call (p1 : Int32) (v : VV) (Q : Int32 → VV → Prop) : Prop :=
  w_X10_isEnd p1 v (fun (x1 : Int32) (v1 : VV) => (¬ x1 = 0 → vp_in p1 2 ∧ ∀ x14 : Int32, x14 = v1 817 (Int32.toNatClampNeg p1) → (x14 = 0 → w_X10_fresh p1 v1 (fun (v3 : VV) => vp_in p1 2 ∧ ∀ v4 : VV, v4 = up2 v3 817 (Int32.toNatClampNeg p1) 1 → vp_in p1 2 ∧ ∀ v6 : VV, v6 = up2 v4 820 (Int32.toNatClampNeg p1) (vp_nar .boolean 0) → vp_in p1 2 ∧ ∀ x51 : Int32, x51 = v6 818 (Int32.toNatClampNeg p1) → w_X10_sendCode p1 230 0 x51 64 v6 (fun (v9 : VV) => w_X10_wait p1 v9 (fun (v10 : VV) => vp_in p1 2 ∧ ∀ x67 : Int32, x67 = v10 818 (Int32.toNatClampNeg p1) → Q x67 v10)))) ∧ (¬ x14 = 0 → Q ((-2)) v1)) ∧ (x1 = 0 → Q ((-1)) v1))
set_option maxHeartbeats 4000000 in
set_option maxRecDepth 100000 in
/-- TransportFourModel.call -/
theorem t_X10_call (l : Launch) (dC : Nat → ClassId) (dI : Nat → Nat → Nat) (base : Nat) (cy : Nat → ClassId) (p1 : Int32) (v : VV) (Q : Int32 → VV → Prop) (hw : w_X10_call p1 v Q) : CI l yX10_call (.code yX10_call cX10_call 2 (some .int) :: TB) { frames := 3, cells := 0, slots := 0, locals := 69 } dC dI base cy [.ref (base + 816), .int p1] v Q := by
  refine Met.ofW (cc := cX10_call) (maxL := 2) (ret := (some .int)) (by decide) rfl ?_
  intro p e s m args below meth c s₁ B hml hv
  obtain ⟨rfl, hP, hK⟩ := hv
  have hx := B.exec
  have hb := B.bytes
  have hr := B.returns
  have hts0 := atoms_spec (ws := (.code yX10_call cX10_call 2 (some .int) :: TB)) B.pre
  have hts : ∀ w ∈ TB, w.before ([.ref (base + 816), .int p1]).toArray s = true := fun w h => hts0 w (List.mem_cons_of_mem _ h)
  have hown : s.vm.findClass RX10 = some m.cls := findClass_of_methodNamed B.named
  have hlocks := B.notSynchronized
  have hS : va_S (fun q => base ≤ q) s.heap s.heap [] := va_S.rf
  have hl := lv_entry ([.ref (base + 816), .int p1]) (n := 2) (Nat.le_of_ble_eq_true rfl)
  rw [lg_entry_eq]
  generalize (lg_sl ([.ref (base + 816), .int p1]) ++ List.replicate (2 - (lg_sl ([.ref (base + 816), .int p1])).length) Slot.unset).toArray = ls at hl ⊢
  have hl : lv_has ls 2 [(0, .ref (base + 816)), (1, .int p1)] := hl
  have hret : ∀ (pc : Nat) (x : Int32) (v : VV) (H : Heap) (locs : List Loc) (ls : Array Slot), decode cX10_call pc = .ok (.ireturn, 1) → Q x v → va_P (dC, dI) vwCl (Wd base cy rf v 874) H → va_S (fun q => base ≤ q) s.heap H locs → W p l e { frames := 3, cells := 0, slots := 0, locals := 69 } s m ([.ref (base + 816), .int p1]).toArray below meth c H locs 0 0 (MQ below (va_Qi Q (Hp dC dI base cy) (fun q => base ≤ q)) ([.ref (base + 816), .int p1]).toArray s 0 0 (fun q => base ≤ q)) (F0 m pc ls [.int x]) := fun pc x v H locs ls hd hq hP hS => W.iret (v := x) hx hb hr (fun t ht hW => ⟨⟨x, v, rfl, hq, by rw [ht]; exact hP, va_K.moved hW.alike hK⟩, hS.F ht⟩) hS.2.2 hd
  refine lv_iload_n hx hb dX10_call_0 rfl (lv_at hl 1 rfl) ?_
  refine kS_I (As := [.int p1]) (rest := []) ⟨hx, hb, hml, hown, hts⟩ (t_X10_isEnd l dC dI base cy p1 v _ hw) (cwS 1 hts (gS ml_X10_231 mt_X10_isEnd mn_X10 mo_X10_isEnd) rfl rfl rfl (by decide +kernel) ⟨by decide, by decide⟩) hK hP hS rfl hl.1 rfl (Nat.le_of_ble_eq_true rfl) dX10_call_1 ⟨Nat.zero_le _, Nat.zero_le _⟩ (fun x1 v1 H locs hw hP hS => ?_)
  refine lv_if_ne (tgt := 9) hx hb dX10_call_4 (by decide) (fun c4 => ?_) (fun c4 => ?_)
  · have hw := hw.1 c4
    refine lv_aload_n hx hb dX10_call_9 rfl (lv_at hl 0 rfl) ?_
    refine w_gR (C := RX10) (T := TX10) (N := 64) (ci := 10) hx hb hts in10 hown hK hP 1 th10.1 th10 rfl (by decide) (ch10_1 th10).1 (hts _ mf_X10_7) dX10_call_10 ?_
    refine lv_iload_n hx hb dX10_call_13 rfl (lv_at hl 1 rfl) ?_
    obtain ⟨hi2, hw⟩ := hw
    refine w_ia (N := 2) hx hb hK hP (ch10_1 th10).2.1.1 (ch10_1 th10).2.1 (ch10_1 th10).2.2 hi2 dX10_call_14 ?_
    refine lv_topi (fun x14 ex14 => ?_)
    have hw := hw x14 ex14
    refine lv_if_eq (tgt := 21) hx hb dX10_call_15 (by decide) (fun c15 => ?_) (fun c15 => ?_)
    · have hw := hw.1 c15
      refine lv_aload_n hx hb dX10_call_21 rfl (lv_at hl 0 rfl) ?_
      refine lv_iload_n hx hb dX10_call_22 rfl (lv_at hl 1 rfl) ?_
      refine k_V (As := [.int p1]) (rest := []) ⟨hx, hb, hml, hown, hts⟩ (t_X10_fresh l dC dI base cy p1 v1 _ hw) (cwV 1 hts (gV ml_X10_235 mi_X10_fresh mx_X10_fresh mn_X10 mo_X10_fresh) rfl rfl rfl (by decide +kernel) ⟨by decide, by decide⟩) hK hP hS th10 (by decide) rfl rfl hl.1 rfl (Nat.le_of_ble_eq_true rfl) dX10_call_23 ⟨Nat.zero_le _, Nat.zero_le _⟩ (fun v3 H locs hw hP hS => ?_)
      refine lv_aload_n hx hb dX10_call_26 rfl (lv_at hl 0 rfl) ?_
      refine w_gR (C := RX10) (T := TX10) (N := 64) (ci := 10) hx hb hts in10 hown hK hP 1 th10.1 th10 rfl (by decide) (ch10_1 th10).1 (hts _ mf_X10_7) dX10_call_27 ?_
      refine lv_iload_n hx hb dX10_call_30 rfl (lv_at hl 1 rfl) ?_
      refine lv_iconst (v := 1) hx hb dX10_call_31 (by decide) ?_
      obtain ⟨hi5, hw⟩ := hw
      refine w_is (N := 2) hx hb hK hP hS (ch10_1 th10).2.1.1 (ch10_1 th10).2.1 (ch10_1 th10).2.2 hi5 dX10_call_32 (fun v4 H locs hv4 hP hz hS => ?_)
      have hw := hw v4 hv4
      refine lv_aload_n hx hb dX10_call_33 rfl (lv_at hl 0 rfl) ?_
      refine w_gR (C := RX10) (T := TX10) (N := 64) (ci := 10) hx hb hts in10 hown hK hP 4 th10.1 th10 rfl (by decide) (ch10_4 th10).1 (hts _ mf_X10_19) dX10_call_34 ?_
      refine lv_iload_n hx hb dX10_call_37 rfl (lv_at hl 1 rfl) ?_
      refine lv_iconst (v := 0) hx hb dX10_call_38 (by decide) ?_
      obtain ⟨hi7, hw⟩ := hw
      refine w_zs (N := 2) hx hb hK hP hS (ch10_4 th10).2.1.1 (ch10_4 th10).2.1 (ch10_4 th10).2.2 hi7 dX10_call_39 (fun v6 H locs hv6 hP hz hS => ?_)
      have hw := hw v6 hv6
      refine lv_aload_n hx hb dX10_call_40 rfl (lv_at hl 0 rfl) ?_
      refine lv_iload_n hx hb dX10_call_41 rfl (lv_at hl 1 rfl) ?_
      refine lv_sipush (v := 230) hx hb dX10_call_42 (by decide) ?_
      refine lv_iconst (v := 0) hx hb dX10_call_45 (by decide) ?_
      refine lv_aload_n hx hb dX10_call_46 rfl (lv_at hl 0 rfl) ?_
      refine w_gR (C := RX10) (T := TX10) (N := 64) (ci := 10) hx hb hts in10 hown hK hP 2 th10.1 th10 rfl (by decide) (ch10_2 th10).1 (hts _ mf_X10_13) dX10_call_47 ?_
      refine lv_iload_n hx hb dX10_call_50 rfl (lv_at hl 1 rfl) ?_
      obtain ⟨hi8, hw⟩ := hw
      refine w_ia (N := 2) hx hb hK hP (ch10_2 th10).2.1.1 (ch10_2 th10).2.1 (ch10_2 th10).2.2 hi8 dX10_call_51 ?_
      refine lv_topi (fun x51 ex51 => ?_)
      have hw := hw x51 ex51
      refine lv_bipush (v := 64) hx hb dX10_call_52 (by decide) ?_
      refine k_V (As := [.int p1, .int 230, .int 0, .int x51, .int 64]) (rest := []) ⟨hx, hb, hml, hown, hts⟩ (t_X10_sendCode l dC dI base cy p1 230 0 x51 64 v6 _ hw) (cwV 5 hts (gV ml_X10_238 mi_X10_sendCode mx_X10_sendCode mn_X10 mo_X10_sendCode) rfl rfl rfl (by decide +kernel) ⟨by decide, by decide⟩) hK hP hS th10 (by decide) rfl rfl hl.1 rfl (Nat.le_of_ble_eq_true rfl) dX10_call_54 ⟨Nat.zero_le _, Nat.zero_le _⟩ (fun v9 H locs hw hP hS => ?_)
      refine lv_aload_n hx hb dX10_call_57 rfl (lv_at hl 0 rfl) ?_
      refine lv_iload_n hx hb dX10_call_58 rfl (lv_at hl 1 rfl) ?_
      refine k_V (As := [.int p1]) (rest := []) ⟨hx, hb, hml, hown, hts⟩ (t_X10_wait l dC dI base cy p1 v9 _ hw) (cwV 1 hts (gV ml_X10_242 mi_X10_wait mx_X10_wait mn_X10 mo_X10_wait) rfl rfl rfl (by decide +kernel) ⟨by decide, by decide⟩) hK hP hS th10 (by decide) rfl rfl hl.1 rfl (Nat.le_of_ble_eq_true rfl) dX10_call_59 ⟨Nat.zero_le _, Nat.zero_le _⟩ (fun v10 H locs hw hP hS => ?_)
      refine lv_aload_n hx hb dX10_call_62 rfl (lv_at hl 0 rfl) ?_
      refine w_gR (C := RX10) (T := TX10) (N := 64) (ci := 10) hx hb hts in10 hown hK hP 2 th10.1 th10 rfl (by decide) (ch10_2 th10).1 (hts _ mf_X10_13) dX10_call_63 ?_
      refine lv_iload_n hx hb dX10_call_66 rfl (lv_at hl 1 rfl) ?_
      obtain ⟨hi11, hw⟩ := hw
      refine w_ia (N := 2) hx hb hK hP (ch10_2 th10).2.1.1 (ch10_2 th10).2.1 (ch10_2 th10).2.2 hi11 dX10_call_67 ?_
      refine lv_topi (fun x67 ex67 => ?_)
      have hw := hw x67 ex67
      exact hret _ _ _ _ _ _ dX10_call_68 hw hP hS
    · have hw := hw.2 c15
      refine lv_bipush (v := -2) hx hb dX10_call_18 (by decide) ?_
      exact hret _ _ _ _ _ _ dX10_call_20 hw hP hS
  · have hw := hw.2 c4
    refine lv_iconst (v := -1) hx hb dX10_call_7 (by decide) ?_
    exact hret _ _ _ _ _ _ dX10_call_8 hw hP hS
def b_X10_setReason_24 (p1 : Int32) (p2 : Int32) (Q : VV → Prop) (a1 : Int32) (a2 : Int32) (s0 : Int32) (s1 : Int32) (v : VV) : Prop :=
  vp_in s1 2 ∧ ∀ v1 : VV, v1 = up2 v 821 (Int32.toNatClampNeg s1) s0 → Q v1
set_option maxHeartbeats 4000000 in
set_option maxRecDepth 100000 in
theorem tb_X10_setReason_24 {p : Program} {l : Launch} {e : Env} {s : State} {m : MethodId} {args : Array Value} {below : List Frame} {meth : Method} {c : Code} {QQ : State → Prop} {dC : Nat → ClassId} {dI : Nat → Nat → Nat} {base : Nat} {cy : Nat → ClassId} (hx : p.tables.exec = Jvm.exec) (hb : c.code = cX10_setReason) (hml : c.maxLocals = 3) (hown : s.vm.findClass RX10 = some m.cls) (hts : ∀ w ∈ TB, w.before args s = true) (hK : va_K (dC, dI) vwCl (tyL cy) s) (p1 : Int32) (p2 : Int32) (Q : VV → Prop) (hret : ∀ (pc : Nat) (v : VV) (H : Heap) (locs : List Loc) (ls : Array Slot), decode cX10_setReason pc = .ok (.return_, 1) → Q v → va_P (dC, dI) vwCl (Wd base cy rf v 874) H → va_S (fun q => base ≤ q) s.heap H locs → W p l e { frames := 0, cells := 0, slots := 0, locals := 0 } s m args below meth c H locs 0 0 QQ (F0 m pc ls [])) (a1 : Int32) (a2 : Int32) (s0 : Int32) (s1 : Int32) (v : VV) (H : Heap) (locs : List Loc) (ls : Array Slot) (hw : b_X10_setReason_24 p1 p2 Q  a1 a2 s0 s1 v) : lv_has ls 3 [(0, .ref (base + 816)), (1, .int a1), (2, .int a2)] → va_P (dC, dI) vwCl (Wd base cy rf v 874) H → va_S (fun q => base ≤ q) s.heap H locs → W p l e { frames := 0, cells := 0, slots := 0, locals := 0 } s m args below meth c H locs 0 0 QQ (F0 m 24 ls [.int s0, .int s1, .ref (base + 821)]) := by
  intro hl hP hS
  obtain ⟨hi2, hw⟩ := hw
  refine w_is (N := 2) hx hb hK hP hS (ch10_5 th10).2.1.1 (ch10_5 th10).2.1 (ch10_5 th10).2.2 hi2 dX10_setReason_24 (fun v1 H locs hv1 hP hz hS => ?_)
  have hw := hw v1 hv1
  exact hret _ _ _ _ _ dX10_setReason_25 hw hP hS
def w_X10_setReason (p1 : Int32) (p2 : Int32) (v : VV) (Q : VV → Prop) : Prop :=
  vp_in p1 2 ∧ ∀ x10 : Int32, x10 = v 821 (Int32.toNatClampNeg p1) → (0 ≤ x10 → vp_in p1 2 ∧ ∀ x23 : Int32, x23 = v 821 (Int32.toNatClampNeg p1) → b_X10_setReason_24 p1 p2 Q  p1 p2 x23 p1 v) ∧ (¬ 0 ≤ x10 → b_X10_setReason_24 p1 p2 Q  p1 p2 p2 p1 v)
set_option maxHeartbeats 4000000 in
set_option maxRecDepth 100000 in
/-- TransportFourModel.setReason -/
theorem t_X10_setReason (l : Launch) (dC : Nat → ClassId) (dI : Nat → Nat → Nat) (base : Nat) (cy : Nat → ClassId) (p1 : Int32) (p2 : Int32) (v : VV) (Q : VV → Prop) (hw : w_X10_setReason p1 p2 v Q) : CV l yX10_setReason (.code yX10_setReason cX10_setReason 3 none :: TB) { frames := 0, cells := 0, slots := 0, locals := 0 } dC dI base cy [.ref (base + 816), .int p1, .int p2] v Q := by
  refine Met.ofW (cc := cX10_setReason) (maxL := 3) (ret := none) (by decide) rfl ?_
  intro p e s m args below meth c s₁ B hml hv
  obtain ⟨rfl, hP, hK⟩ := hv
  have hx := B.exec
  have hb := B.bytes
  have hr := B.returns
  have hts0 := atoms_spec (ws := (.code yX10_setReason cX10_setReason 3 none :: TB)) B.pre
  have hts : ∀ w ∈ TB, w.before ([.ref (base + 816), .int p1, .int p2]).toArray s = true := fun w h => hts0 w (List.mem_cons_of_mem _ h)
  have hown : s.vm.findClass RX10 = some m.cls := findClass_of_methodNamed B.named
  have hlocks := B.notSynchronized
  have hS : va_S (fun q => base ≤ q) s.heap s.heap [] := va_S.rf
  have hl := lv_entry ([.ref (base + 816), .int p1, .int p2]) (n := 3) (Nat.le_of_ble_eq_true rfl)
  rw [lg_entry_eq]
  generalize (lg_sl ([.ref (base + 816), .int p1, .int p2]) ++ List.replicate (3 - (lg_sl ([.ref (base + 816), .int p1, .int p2])).length) Slot.unset).toArray = ls at hl ⊢
  have hl : lv_has ls 3 [(0, .ref (base + 816)), (1, .int p1), (2, .int p2)] := hl
  have hret : ∀ (pc : Nat) (v : VV) (H : Heap) (locs : List Loc) (ls : Array Slot), decode cX10_setReason pc = .ok (.return_, 1) → Q v → va_P (dC, dI) vwCl (Wd base cy rf v 874) H → va_S (fun q => base ≤ q) s.heap H locs → W p l e { frames := 0, cells := 0, slots := 0, locals := 0 } s m ([.ref (base + 816), .int p1, .int p2]).toArray below meth c H locs 0 0 (MQ below (va_Qv Q (Hp dC dI base cy) (fun q => base ≤ q)) ([.ref (base + 816), .int p1, .int p2]).toArray s 0 0 (fun q => base ≤ q)) (F0 m pc ls []) := fun pc v H locs ls hd hq hP hS => W.vret hx hb hr (fun t ht hW => ⟨⟨v, rfl, hq, by rw [ht]; exact hP, va_K.moved hW.alike hK⟩, hS.F ht⟩) hS.2.2 hd
  refine lv_aload_n hx hb dX10_setReason_0 rfl (lv_at hl 0 rfl) ?_
  refine w_gR (C := RX10) (T := TX10) (N := 64) (ci := 10) hx hb hts in10 hown hK hP 5 th10.1 th10 rfl (by decide) (ch10_5 th10).1 (hts _ mf_X10_23) dX10_setReason_1 ?_
  refine lv_iload_n hx hb dX10_setReason_4 rfl (lv_at hl 1 rfl) ?_
  refine lv_aload_n hx hb dX10_setReason_5 rfl (lv_at hl 0 rfl) ?_
  refine w_gR (C := RX10) (T := TX10) (N := 64) (ci := 10) hx hb hts in10 hown hK hP 5 th10.1 th10 rfl (by decide) (ch10_5 th10).1 (hts _ mf_X10_23) dX10_setReason_6 ?_
  refine lv_iload_n hx hb dX10_setReason_9 rfl (lv_at hl 1 rfl) ?_
  obtain ⟨hi1, hw⟩ := hw
  refine w_ia (N := 2) hx hb hK hP (ch10_5 th10).2.1.1 (ch10_5 th10).2.1 (ch10_5 th10).2.2 hi1 dX10_setReason_10 ?_
  refine lv_topi (fun x10 ex10 => ?_)
  have hw := hw x10 ex10
  refine lv_if_ge (tgt := 18) hx hb dX10_setReason_11 (by decide) (fun c11 => ?_) (fun c11 => ?_)
  · have hw := hw.1 c11
    refine lv_aload_n hx hb dX10_setReason_18 rfl (lv_at hl 0 rfl) ?_
    refine w_gR (C := RX10) (T := TX10) (N := 64) (ci := 10) hx hb hts in10 hown hK hP 5 th10.1 th10 rfl (by decide) (ch10_5 th10).1 (hts _ mf_X10_23) dX10_setReason_19 ?_
    refine lv_iload_n hx hb dX10_setReason_22 rfl (lv_at hl 1 rfl) ?_
    obtain ⟨hi2, hw⟩ := hw
    refine w_ia (N := 2) hx hb hK hP (ch10_5 th10).2.1.1 (ch10_5 th10).2.1 (ch10_5 th10).2.2 hi2 dX10_setReason_23 ?_
    refine lv_topi (fun x23 ex23 => ?_)
    have hw := hw x23 ex23
    exact tb_X10_setReason_24 hx hb hml hown hts hK p1 p2 _ hret  p1 p2 x23 p1 v _ _ _ hw (lv_sub hl [0, 1, 2] rfl) hP hS
  · have hw := hw.2 c11
    refine lv_iload_n hx hb dX10_setReason_14 rfl (lv_at hl 2 rfl) ?_
    refine lv_goto (tgt := 24) hx hb dX10_setReason_15 (by decide) ?_
    exact tb_X10_setReason_24 hx hb hml hown hts hK p1 p2 _ hret  p1 p2 p2 p1 v _ _ _ hw (lv_sub hl [0, 1, 2] rfl) hP hS
def w_X10_freeze (p1 : Int32) (v : VV) (Q : VV → Prop) : Prop :=
  vp_in p1 2 ∧ ∀ v1 : VV, v1 = up2 v 817 (Int32.toNatClampNeg p1) 4 → ∀ x13 : Int32, x13 = v1 816 0 → vp_in p1 2 ∧ ∀ v3 : VV, v3 = up2 v1 822 (Int32.toNatClampNeg p1) x13 → vp_in p1 2 ∧ ∀ v5 : VV, v5 = up2 v3 825 (Int32.toNatClampNeg p1) 0 → Q v5
set_option maxHeartbeats 4000000 in
set_option maxRecDepth 100000 in
/-- TransportFourModel.freeze -/
theorem t_X10_freeze (l : Launch) (dC : Nat → ClassId) (dI : Nat → Nat → Nat) (base : Nat) (cy : Nat → ClassId) (p1 : Int32) (v : VV) (Q : VV → Prop) (hw : w_X10_freeze p1 v Q) : CV l yX10_freeze (.code yX10_freeze cX10_freeze 2 none :: TB) { frames := 0, cells := 0, slots := 0, locals := 0 } dC dI base cy [.ref (base + 816), .int p1] v Q := by
  refine Met.ofW (cc := cX10_freeze) (maxL := 2) (ret := none) (by decide) rfl ?_
  intro p e s m args below meth c s₁ B hml hv
  obtain ⟨rfl, hP, hK⟩ := hv
  have hx := B.exec
  have hb := B.bytes
  have hr := B.returns
  have hts0 := atoms_spec (ws := (.code yX10_freeze cX10_freeze 2 none :: TB)) B.pre
  have hts : ∀ w ∈ TB, w.before ([.ref (base + 816), .int p1]).toArray s = true := fun w h => hts0 w (List.mem_cons_of_mem _ h)
  have hown : s.vm.findClass RX10 = some m.cls := findClass_of_methodNamed B.named
  have hlocks := B.notSynchronized
  have hS : va_S (fun q => base ≤ q) s.heap s.heap [] := va_S.rf
  have hl := lv_entry ([.ref (base + 816), .int p1]) (n := 2) (Nat.le_of_ble_eq_true rfl)
  rw [lg_entry_eq]
  generalize (lg_sl ([.ref (base + 816), .int p1]) ++ List.replicate (2 - (lg_sl ([.ref (base + 816), .int p1])).length) Slot.unset).toArray = ls at hl ⊢
  have hl : lv_has ls 2 [(0, .ref (base + 816)), (1, .int p1)] := hl
  have hret : ∀ (pc : Nat) (v : VV) (H : Heap) (locs : List Loc) (ls : Array Slot), decode cX10_freeze pc = .ok (.return_, 1) → Q v → va_P (dC, dI) vwCl (Wd base cy rf v 874) H → va_S (fun q => base ≤ q) s.heap H locs → W p l e { frames := 0, cells := 0, slots := 0, locals := 0 } s m ([.ref (base + 816), .int p1]).toArray below meth c H locs 0 0 (MQ below (va_Qv Q (Hp dC dI base cy) (fun q => base ≤ q)) ([.ref (base + 816), .int p1]).toArray s 0 0 (fun q => base ≤ q)) (F0 m pc ls []) := fun pc v H locs ls hd hq hP hS => W.vret hx hb hr (fun t ht hW => ⟨⟨v, rfl, hq, by rw [ht]; exact hP, va_K.moved hW.alike hK⟩, hS.F ht⟩) hS.2.2 hd
  refine lv_aload_n hx hb dX10_freeze_0 rfl (lv_at hl 0 rfl) ?_
  refine w_gR (C := RX10) (T := TX10) (N := 64) (ci := 10) hx hb hts in10 hown hK hP 1 th10.1 th10 rfl (by decide) (ch10_1 th10).1 (hts _ mf_X10_7) dX10_freeze_1 ?_
  refine lv_iload_n hx hb dX10_freeze_4 rfl (lv_at hl 1 rfl) ?_
  refine lv_iconst (v := 4) hx hb dX10_freeze_5 (by decide) ?_
  obtain ⟨hi2, hw⟩ := hw
  refine w_is (N := 2) hx hb hK hP hS (ch10_1 th10).2.1.1 (ch10_1 th10).2.1 (ch10_1 th10).2.2 hi2 dX10_freeze_6 (fun v1 H locs hv1 hP hz hS => ?_)
  have hw := hw v1 hv1
  refine lv_aload_n hx hb dX10_freeze_7 rfl (lv_at hl 0 rfl) ?_
  refine w_gR (C := RX10) (T := TX10) (N := 64) (ci := 10) hx hb hts in10 hown hK hP 6 th10.1 th10 rfl (by decide) (ch10_6 th10).1 (hts _ mf_X10_26) dX10_freeze_8 ?_
  refine lv_iload_n hx hb dX10_freeze_11 rfl (lv_at hl 1 rfl) ?_
  refine lv_aload_n hx hb dX10_freeze_12 rfl (lv_at hl 0 rfl) ?_
  refine w_gI (C := RX10) (T := TX10) (N := 64) (ci := 10) hx hb hts in10 hown hK hP 0 th10.1 th10 rfl (by decide) (hts _ mf_X10_198) dX10_freeze_13 ?_
  refine lv_topi (fun x13 ex13 => ?_)
  have hw := hw x13 ex13
  obtain ⟨hi4, hw⟩ := hw
  refine w_is (N := 2) hx hb hK hP hS (ch10_6 th10).2.1.1 (ch10_6 th10).2.1 (ch10_6 th10).2.2 hi4 dX10_freeze_16 (fun v3 H locs hv3 hP hz hS => ?_)
  have hw := hw v3 hv3
  refine lv_aload_n hx hb dX10_freeze_17 rfl (lv_at hl 0 rfl) ?_
  refine w_gR (C := RX10) (T := TX10) (N := 64) (ci := 10) hx hb hts in10 hown hK hP 9 th10.1 th10 rfl (by decide) (ch10_9 th10).1 (hts _ mf_X10_35) dX10_freeze_18 ?_
  refine lv_iload_n hx hb dX10_freeze_21 rfl (lv_at hl 1 rfl) ?_
  refine lv_iconst (v := 0) hx hb dX10_freeze_22 (by decide) ?_
  obtain ⟨hi6, hw⟩ := hw
  refine w_is (N := 2) hx hb hK hP hS (ch10_9 th10).2.1.1 (ch10_9 th10).2.1 (ch10_9 th10).2.2 hi6 dX10_freeze_23 (fun v5 H locs hv5 hP hz hS => ?_)
  have hw := hw v5 hv5
  exact hret _ _ _ _ _ dX10_freeze_24 hw hP hS
def w_X10_giveUp (p1 : Int32) (v : VV) (Q : VV → Prop) : Prop :=
  vp_in p1 2 ∧ ∀ x10 : Int32, x10 = v 819 (Int32.toNatClampNeg p1) → vp_in p1 2 ∧ ∀ x16 : Int32, x16 = v 818 (Int32.toNatClampNeg p1) → w_X10_sendCode p1 128 x10 x16 1 v (fun (v3 : VV) => w_X10_setReason p1 1 v3 (fun (v4 : VV) => w_X10_freeze p1 v4 (fun (v5 : VV) => Q v5)))
set_option maxHeartbeats 4000000 in
set_option maxRecDepth 100000 in
/-- TransportFourModel.giveUp -/
theorem t_X10_giveUp (l : Launch) (dC : Nat → ClassId) (dI : Nat → Nat → Nat) (base : Nat) (cy : Nat → ClassId) (p1 : Int32) (v : VV) (Q : VV → Prop) (hw : w_X10_giveUp p1 v Q) : CV l yX10_giveUp (.code yX10_giveUp cX10_giveUp 2 none :: TB) { frames := 3, cells := 0, slots := 0, locals := 69 } dC dI base cy [.ref (base + 816), .int p1] v Q := by
  refine Met.ofW (cc := cX10_giveUp) (maxL := 2) (ret := none) (by decide) rfl ?_
  intro p e s m args below meth c s₁ B hml hv
  obtain ⟨rfl, hP, hK⟩ := hv
  have hx := B.exec
  have hb := B.bytes
  have hr := B.returns
  have hts0 := atoms_spec (ws := (.code yX10_giveUp cX10_giveUp 2 none :: TB)) B.pre
  have hts : ∀ w ∈ TB, w.before ([.ref (base + 816), .int p1]).toArray s = true := fun w h => hts0 w (List.mem_cons_of_mem _ h)
  have hown : s.vm.findClass RX10 = some m.cls := findClass_of_methodNamed B.named
  have hlocks := B.notSynchronized
  have hS : va_S (fun q => base ≤ q) s.heap s.heap [] := va_S.rf
  have hl := lv_entry ([.ref (base + 816), .int p1]) (n := 2) (Nat.le_of_ble_eq_true rfl)
  rw [lg_entry_eq]
  generalize (lg_sl ([.ref (base + 816), .int p1]) ++ List.replicate (2 - (lg_sl ([.ref (base + 816), .int p1])).length) Slot.unset).toArray = ls at hl ⊢
  have hl : lv_has ls 2 [(0, .ref (base + 816)), (1, .int p1)] := hl
  have hret : ∀ (pc : Nat) (v : VV) (H : Heap) (locs : List Loc) (ls : Array Slot), decode cX10_giveUp pc = .ok (.return_, 1) → Q v → va_P (dC, dI) vwCl (Wd base cy rf v 874) H → va_S (fun q => base ≤ q) s.heap H locs → W p l e { frames := 3, cells := 0, slots := 0, locals := 69 } s m ([.ref (base + 816), .int p1]).toArray below meth c H locs 0 0 (MQ below (va_Qv Q (Hp dC dI base cy) (fun q => base ≤ q)) ([.ref (base + 816), .int p1]).toArray s 0 0 (fun q => base ≤ q)) (F0 m pc ls []) := fun pc v H locs ls hd hq hP hS => W.vret hx hb hr (fun t ht hW => ⟨⟨v, rfl, hq, by rw [ht]; exact hP, va_K.moved hW.alike hK⟩, hS.F ht⟩) hS.2.2 hd
  refine lv_aload_n hx hb dX10_giveUp_0 rfl (lv_at hl 0 rfl) ?_
  refine lv_iload_n hx hb dX10_giveUp_1 rfl (lv_at hl 1 rfl) ?_
  refine lv_sipush (v := 128) hx hb dX10_giveUp_2 (by decide) ?_
  refine lv_aload_n hx hb dX10_giveUp_5 rfl (lv_at hl 0 rfl) ?_
  refine w_gR (C := RX10) (T := TX10) (N := 64) (ci := 10) hx hb hts in10 hown hK hP 3 th10.1 th10 rfl (by decide) (ch10_3 th10).1 (hts _ mf_X10_16) dX10_giveUp_6 ?_
  refine lv_iload_n hx hb dX10_giveUp_9 rfl (lv_at hl 1 rfl) ?_
  obtain ⟨hi1, hw⟩ := hw
  refine w_ia (N := 2) hx hb hK hP (ch10_3 th10).2.1.1 (ch10_3 th10).2.1 (ch10_3 th10).2.2 hi1 dX10_giveUp_10 ?_
  refine lv_topi (fun x10 ex10 => ?_)
  have hw := hw x10 ex10
  refine lv_aload_n hx hb dX10_giveUp_11 rfl (lv_at hl 0 rfl) ?_
  refine w_gR (C := RX10) (T := TX10) (N := 64) (ci := 10) hx hb hts in10 hown hK hP 2 th10.1 th10 rfl (by decide) (ch10_2 th10).1 (hts _ mf_X10_13) dX10_giveUp_12 ?_
  refine lv_iload_n hx hb dX10_giveUp_15 rfl (lv_at hl 1 rfl) ?_
  obtain ⟨hi2, hw⟩ := hw
  refine w_ia (N := 2) hx hb hK hP (ch10_2 th10).2.1.1 (ch10_2 th10).2.1 (ch10_2 th10).2.2 hi2 dX10_giveUp_16 ?_
  refine lv_topi (fun x16 ex16 => ?_)
  have hw := hw x16 ex16
  refine lv_iconst (v := 1) hx hb dX10_giveUp_17 (by decide) ?_
  refine k_V (As := [.int p1, .int 128, .int x10, .int x16, .int 1]) (rest := []) ⟨hx, hb, hml, hown, hts⟩ (t_X10_sendCode l dC dI base cy p1 128 x10 x16 1 v _ hw) (cwV 5 hts (gV ml_X10_238 mi_X10_sendCode mx_X10_sendCode mn_X10 mo_X10_sendCode) rfl rfl rfl (by decide +kernel) ⟨by decide, by decide⟩) hK hP hS th10 (by decide) rfl rfl hl.1 rfl (Nat.le_of_ble_eq_true rfl) dX10_giveUp_18 ⟨Nat.zero_le _, Nat.zero_le _⟩ (fun v3 H locs hw hP hS => ?_)
  refine lv_aload_n hx hb dX10_giveUp_21 rfl (lv_at hl 0 rfl) ?_
  refine lv_iload_n hx hb dX10_giveUp_22 rfl (lv_at hl 1 rfl) ?_
  refine lv_iconst (v := 1) hx hb dX10_giveUp_23 (by decide) ?_
  refine k_V (As := [.int p1, .int 1]) (rest := []) ⟨hx, hb, hml, hown, hts⟩ (t_X10_setReason l dC dI base cy p1 1 v3 _ hw) (cwV 2 hts (gV ml_X10_245 mi_X10_setReason mx_X10_setReason mn_X10 mo_X10_setReason) rfl rfl rfl (by decide +kernel) ⟨by decide, by decide⟩) hK hP hS th10 (by decide) rfl rfl hl.1 rfl (Nat.le_of_ble_eq_true rfl) dX10_giveUp_24 ⟨Nat.zero_le _, Nat.zero_le _⟩ (fun v4 H locs hw hP hS => ?_)
  refine lv_aload_n hx hb dX10_giveUp_27 rfl (lv_at hl 0 rfl) ?_
  refine lv_iload_n hx hb dX10_giveUp_28 rfl (lv_at hl 1 rfl) ?_
  refine k_V (As := [.int p1]) (rest := []) ⟨hx, hb, hml, hown, hts⟩ (t_X10_freeze l dC dI base cy p1 v4 _ hw) (cwV 1 hts (gV ml_X10_248 mi_X10_freeze mx_X10_freeze mn_X10 mo_X10_freeze) rfl rfl rfl (by decide +kernel) ⟨by decide, by decide⟩) hK hP hS th10 (by decide) rfl rfl hl.1 rfl (Nat.le_of_ble_eq_true rfl) dX10_giveUp_29 ⟨Nat.zero_le _, Nat.zero_le _⟩ (fun v5 H locs hw hP hS => ?_)
  exact hret _ _ _ _ _ dX10_giveUp_32 hw hP hS
def b_X10_end_32 (p1 : Int32) (Q : Int32 → VV → Prop) (a1 : Int32) (v : VV) : Prop :=
  vp_in a1 2 ∧ ∀ x42 : Int32, x42 = v 819 (Int32.toNatClampNeg a1) → vp_in a1 2 ∧ ∀ x48 : Int32, x48 = v 818 (Int32.toNatClampNeg a1) → w_X10_sendCode a1 128 x42 x48 0 v (fun (v3 : VV) => w_X10_wait a1 v3 (fun (v4 : VV) => w_X10_setReason a1 0 v4 (fun (v5 : VV) => vp_in a1 2 ∧ ∀ x74 : Int32, x74 = v5 831 (Int32.toNatClampNeg a1) → vp_in a1 2 ∧ ∀ v7 : VV, v7 = up2 v5 830 (Int32.toNatClampNeg a1) x74 → vp_in a1 2 ∧ ∀ v9 : VV, v9 = up2 v7 817 (Int32.toNatClampNeg a1) 3 → Q 1 v9)))
set_option maxHeartbeats 4000000 in
set_option maxRecDepth 100000 in
theorem tb_X10_end_32 {p : Program} {l : Launch} {e : Env} {s : State} {m : MethodId} {args : Array Value} {below : List Frame} {meth : Method} {c : Code} {QQ : State → Prop} {dC : Nat → ClassId} {dI : Nat → Nat → Nat} {base : Nat} {cy : Nat → ClassId} (hx : p.tables.exec = Jvm.exec) (hb : c.code = cX10_end) (hml : c.maxLocals = 2) (hown : s.vm.findClass RX10 = some m.cls) (hts : ∀ w ∈ TB, w.before args s = true) (hK : va_K (dC, dI) vwCl (tyL cy) s) (p1 : Int32) (Q : Int32 → VV → Prop) (hret : ∀ (pc : Nat) (x : Int32) (v : VV) (H : Heap) (locs : List Loc) (ls : Array Slot), decode cX10_end pc = .ok (.ireturn, 1) → Q x v → va_P (dC, dI) vwCl (Wd base cy rf v 874) H → va_S (fun q => base ≤ q) s.heap H locs → W p l e { frames := 3, cells := 0, slots := 0, locals := 69 } s m args below meth c H locs 0 0 QQ (F0 m pc ls [.int x])) (a1 : Int32) (v : VV) (H : Heap) (locs : List Loc) (ls : Array Slot) (hw : b_X10_end_32 p1 Q  a1 v) : lv_has ls 2 [(0, .ref (base + 816)), (1, .int a1)] → va_P (dC, dI) vwCl (Wd base cy rf v 874) H → va_S (fun q => base ≤ q) s.heap H locs → W p l e { frames := 3, cells := 0, slots := 0, locals := 69 } s m args below meth c H locs 0 0 QQ (F0 m 32 ls []) := by
  intro hl hP hS
  refine lv_aload_n hx hb dX10_end_32 rfl (lv_at hl 0 rfl) ?_
  refine lv_iload_n hx hb dX10_end_33 rfl (lv_at hl 1 rfl) ?_
  refine lv_sipush (v := 128) hx hb dX10_end_34 (by decide) ?_
  refine lv_aload_n hx hb dX10_end_37 rfl (lv_at hl 0 rfl) ?_
  refine w_gR (C := RX10) (T := TX10) (N := 64) (ci := 10) hx hb hts in10 hown hK hP 3 th10.1 th10 rfl (by decide) (ch10_3 th10).1 (hts _ mf_X10_16) dX10_end_38 ?_
  refine lv_iload_n hx hb dX10_end_41 rfl (lv_at hl 1 rfl) ?_
  obtain ⟨hi1, hw⟩ := hw
  refine w_ia (N := 2) hx hb hK hP (ch10_3 th10).2.1.1 (ch10_3 th10).2.1 (ch10_3 th10).2.2 hi1 dX10_end_42 ?_
  refine lv_topi (fun x42 ex42 => ?_)
  have hw := hw x42 ex42
  refine lv_aload_n hx hb dX10_end_43 rfl (lv_at hl 0 rfl) ?_
  refine w_gR (C := RX10) (T := TX10) (N := 64) (ci := 10) hx hb hts in10 hown hK hP 2 th10.1 th10 rfl (by decide) (ch10_2 th10).1 (hts _ mf_X10_13) dX10_end_44 ?_
  refine lv_iload_n hx hb dX10_end_47 rfl (lv_at hl 1 rfl) ?_
  obtain ⟨hi2, hw⟩ := hw
  refine w_ia (N := 2) hx hb hK hP (ch10_2 th10).2.1.1 (ch10_2 th10).2.1 (ch10_2 th10).2.2 hi2 dX10_end_48 ?_
  refine lv_topi (fun x48 ex48 => ?_)
  have hw := hw x48 ex48
  refine lv_iconst (v := 0) hx hb dX10_end_49 (by decide) ?_
  refine k_V (As := [.int a1, .int 128, .int x42, .int x48, .int 0]) (rest := []) ⟨hx, hb, hml, hown, hts⟩ (t_X10_sendCode l dC dI base cy a1 128 x42 x48 0 v _ hw) (cwV 5 hts (gV ml_X10_238 mi_X10_sendCode mx_X10_sendCode mn_X10 mo_X10_sendCode) rfl rfl rfl (by decide +kernel) ⟨by decide, by decide⟩) hK hP hS th10 (by decide) rfl rfl hl.1 rfl (Nat.le_of_ble_eq_true rfl) dX10_end_50 ⟨Nat.zero_le _, Nat.zero_le _⟩ (fun v3 H locs hw hP hS => ?_)
  refine lv_aload_n hx hb dX10_end_53 rfl (lv_at hl 0 rfl) ?_
  refine lv_iload_n hx hb dX10_end_54 rfl (lv_at hl 1 rfl) ?_
  refine k_V (As := [.int a1]) (rest := []) ⟨hx, hb, hml, hown, hts⟩ (t_X10_wait l dC dI base cy a1 v3 _ hw) (cwV 1 hts (gV ml_X10_242 mi_X10_wait mx_X10_wait mn_X10 mo_X10_wait) rfl rfl rfl (by decide +kernel) ⟨by decide, by decide⟩) hK hP hS th10 (by decide) rfl rfl hl.1 rfl (Nat.le_of_ble_eq_true rfl) dX10_end_55 ⟨Nat.zero_le _, Nat.zero_le _⟩ (fun v4 H locs hw hP hS => ?_)
  refine lv_aload_n hx hb dX10_end_58 rfl (lv_at hl 0 rfl) ?_
  refine lv_iload_n hx hb dX10_end_59 rfl (lv_at hl 1 rfl) ?_
  refine lv_iconst (v := 0) hx hb dX10_end_60 (by decide) ?_
  refine k_V (As := [.int a1, .int 0]) (rest := []) ⟨hx, hb, hml, hown, hts⟩ (t_X10_setReason l dC dI base cy a1 0 v4 _ hw) (cwV 2 hts (gV ml_X10_245 mi_X10_setReason mx_X10_setReason mn_X10 mo_X10_setReason) rfl rfl rfl (by decide +kernel) ⟨by decide, by decide⟩) hK hP hS th10 (by decide) rfl rfl hl.1 rfl (Nat.le_of_ble_eq_true rfl) dX10_end_61 ⟨Nat.zero_le _, Nat.zero_le _⟩ (fun v5 H locs hw hP hS => ?_)
  refine lv_aload_n hx hb dX10_end_64 rfl (lv_at hl 0 rfl) ?_
  refine w_gR (C := RX10) (T := TX10) (N := 64) (ci := 10) hx hb hts in10 hown hK hP 14 th10.1 th10 rfl (by decide) (ch10_14 th10).1 (hts _ mf_X10_50) dX10_end_65 ?_
  refine lv_iload_n hx hb dX10_end_68 rfl (lv_at hl 1 rfl) ?_
  refine lv_aload_n hx hb dX10_end_69 rfl (lv_at hl 0 rfl) ?_
  refine w_gR (C := RX10) (T := TX10) (N := 64) (ci := 10) hx hb hts in10 hown hK hP 15 th10.1 th10 rfl (by decide) (ch10_15 th10).1 (hts _ mf_X10_53) dX10_end_70 ?_
  refine lv_iload_n hx hb dX10_end_73 rfl (lv_at hl 1 rfl) ?_
  obtain ⟨hi6, hw⟩ := hw
  refine w_ia (N := 2) hx hb hK hP (ch10_15 th10).2.1.1 (ch10_15 th10).2.1 (ch10_15 th10).2.2 hi6 dX10_end_74 ?_
  refine lv_topi (fun x74 ex74 => ?_)
  have hw := hw x74 ex74
  obtain ⟨hi8, hw⟩ := hw
  refine w_is (N := 2) hx hb hK hP hS (ch10_14 th10).2.1.1 (ch10_14 th10).2.1 (ch10_14 th10).2.2 hi8 dX10_end_75 (fun v7 H locs hv7 hP hz hS => ?_)
  have hw := hw v7 hv7
  refine lv_aload_n hx hb dX10_end_76 rfl (lv_at hl 0 rfl) ?_
  refine w_gR (C := RX10) (T := TX10) (N := 64) (ci := 10) hx hb hts in10 hown hK hP 1 th10.1 th10 rfl (by decide) (ch10_1 th10).1 (hts _ mf_X10_7) dX10_end_77 ?_
  refine lv_iload_n hx hb dX10_end_80 rfl (lv_at hl 1 rfl) ?_
  refine lv_iconst (v := 3) hx hb dX10_end_81 (by decide) ?_
  obtain ⟨hi10, hw⟩ := hw
  refine w_is (N := 2) hx hb hK hP hS (ch10_1 th10).2.1.1 (ch10_1 th10).2.1 (ch10_1 th10).2.2 hi10 dX10_end_82 (fun v9 H locs hv9 hP hz hS => ?_)
  have hw := hw v9 hv9
  refine lv_iconst (v := 1) hx hb dX10_end_83 (by decide) ?_
  exact hret _ _ _ _ _ _ dX10_end_84 hw hP hS
def w_X10_end (p1 : Int32) (v : VV) (Q : Int32 → VV → Prop) : Prop :=
  w_X10_isEnd p1 v (fun (x1 : Int32) (v1 : VV) => (¬ x1 = 0 → vp_in p1 2 ∧ ∀ x14 : Int32, x14 = v1 817 (Int32.toNatClampNeg p1) → (x14 = 2 → b_X10_end_32 p1 Q  p1 v1) ∧ (¬ x14 = 2 → vp_in p1 2 ∧ ∀ x24 : Int32, x24 = v1 817 (Int32.toNatClampNeg p1) → (x24 = 1 → b_X10_end_32 p1 Q  p1 v1) ∧ (¬ x24 = 1 → Q ((-2)) v1))) ∧ (x1 = 0 → Q ((-1)) v1))
set_option maxHeartbeats 4000000 in
set_option maxRecDepth 100000 in
/-- TransportFourModel.end -/
theorem t_X10_end (l : Launch) (dC : Nat → ClassId) (dI : Nat → Nat → Nat) (base : Nat) (cy : Nat → ClassId) (p1 : Int32) (v : VV) (Q : Int32 → VV → Prop) (hw : w_X10_end p1 v Q) : CI l yX10_end (.code yX10_end cX10_end 2 (some .int) :: TB) { frames := 3, cells := 0, slots := 0, locals := 69 } dC dI base cy [.ref (base + 816), .int p1] v Q := by
  refine Met.ofW (cc := cX10_end) (maxL := 2) (ret := (some .int)) (by decide) rfl ?_
  intro p e s m args below meth c s₁ B hml hv
  obtain ⟨rfl, hP, hK⟩ := hv
  have hx := B.exec
  have hb := B.bytes
  have hr := B.returns
  have hts0 := atoms_spec (ws := (.code yX10_end cX10_end 2 (some .int) :: TB)) B.pre
  have hts : ∀ w ∈ TB, w.before ([.ref (base + 816), .int p1]).toArray s = true := fun w h => hts0 w (List.mem_cons_of_mem _ h)
  have hown : s.vm.findClass RX10 = some m.cls := findClass_of_methodNamed B.named
  have hlocks := B.notSynchronized
  have hS : va_S (fun q => base ≤ q) s.heap s.heap [] := va_S.rf
  have hl := lv_entry ([.ref (base + 816), .int p1]) (n := 2) (Nat.le_of_ble_eq_true rfl)
  rw [lg_entry_eq]
  generalize (lg_sl ([.ref (base + 816), .int p1]) ++ List.replicate (2 - (lg_sl ([.ref (base + 816), .int p1])).length) Slot.unset).toArray = ls at hl ⊢
  have hl : lv_has ls 2 [(0, .ref (base + 816)), (1, .int p1)] := hl
  have hret : ∀ (pc : Nat) (x : Int32) (v : VV) (H : Heap) (locs : List Loc) (ls : Array Slot), decode cX10_end pc = .ok (.ireturn, 1) → Q x v → va_P (dC, dI) vwCl (Wd base cy rf v 874) H → va_S (fun q => base ≤ q) s.heap H locs → W p l e { frames := 3, cells := 0, slots := 0, locals := 69 } s m ([.ref (base + 816), .int p1]).toArray below meth c H locs 0 0 (MQ below (va_Qi Q (Hp dC dI base cy) (fun q => base ≤ q)) ([.ref (base + 816), .int p1]).toArray s 0 0 (fun q => base ≤ q)) (F0 m pc ls [.int x]) := fun pc x v H locs ls hd hq hP hS => W.iret (v := x) hx hb hr (fun t ht hW => ⟨⟨x, v, rfl, hq, by rw [ht]; exact hP, va_K.moved hW.alike hK⟩, hS.F ht⟩) hS.2.2 hd
  refine lv_iload_n hx hb dX10_end_0 rfl (lv_at hl 1 rfl) ?_
  refine kS_I (As := [.int p1]) (rest := []) ⟨hx, hb, hml, hown, hts⟩ (t_X10_isEnd l dC dI base cy p1 v _ hw) (cwS 1 hts (gS ml_X10_231 mt_X10_isEnd mn_X10 mo_X10_isEnd) rfl rfl rfl (by decide +kernel) ⟨by decide, by decide⟩) hK hP hS rfl hl.1 rfl (Nat.le_of_ble_eq_true rfl) dX10_end_1 ⟨Nat.zero_le _, Nat.zero_le _⟩ (fun x1 v1 H locs hw hP hS => ?_)
  refine lv_if_ne (tgt := 9) hx hb dX10_end_4 (by decide) (fun c4 => ?_) (fun c4 => ?_)
  · have hw := hw.1 c4
    refine lv_aload_n hx hb dX10_end_9 rfl (lv_at hl 0 rfl) ?_
    refine w_gR (C := RX10) (T := TX10) (N := 64) (ci := 10) hx hb hts in10 hown hK hP 1 th10.1 th10 rfl (by decide) (ch10_1 th10).1 (hts _ mf_X10_7) dX10_end_10 ?_
    refine lv_iload_n hx hb dX10_end_13 rfl (lv_at hl 1 rfl) ?_
    obtain ⟨hi2, hw⟩ := hw
    refine w_ia (N := 2) hx hb hK hP (ch10_1 th10).2.1.1 (ch10_1 th10).2.1 (ch10_1 th10).2.2 hi2 dX10_end_14 ?_
    refine lv_topi (fun x14 ex14 => ?_)
    have hw := hw x14 ex14
    refine lv_iconst (v := 2) hx hb dX10_end_15 (by decide) ?_
    refine lv_icmp_eq (tgt := 32) hx hb dX10_end_16 (by decide) (fun c16 => ?_) (fun c16 => ?_)
    · have hw := hw.1 c16
      exact tb_X10_end_32 hx hb hml hown hts hK p1 _ hret  p1 v1 _ _ _ hw (lv_sub hl [0, 1] rfl) hP hS
    · have hw := hw.2 c16
      refine lv_aload_n hx hb dX10_end_19 rfl (lv_at hl 0 rfl) ?_
      refine w_gR (C := RX10) (T := TX10) (N := 64) (ci := 10) hx hb hts in10 hown hK hP 1 th10.1 th10 rfl (by decide) (ch10_1 th10).1 (hts _ mf_X10_7) dX10_end_20 ?_
      refine lv_iload_n hx hb dX10_end_23 rfl (lv_at hl 1 rfl) ?_
      obtain ⟨hi3, hw⟩ := hw
      refine w_ia (N := 2) hx hb hK hP (ch10_1 th10).2.1.1 (ch10_1 th10).2.1 (ch10_1 th10).2.2 hi3 dX10_end_24 ?_
      refine lv_topi (fun x24 ex24 => ?_)
      have hw := hw x24 ex24
      refine lv_iconst (v := 1) hx hb dX10_end_25 (by decide) ?_
      refine lv_icmp_eq (tgt := 32) hx hb dX10_end_26 (by decide) (fun c26 => ?_) (fun c26 => ?_)
      · have hw := hw.1 c26
        exact tb_X10_end_32 hx hb hml hown hts hK p1 _ hret  p1 v1 _ _ _ hw (lv_sub hl [0, 1] rfl) hP hS
      · have hw := hw.2 c26
        refine lv_bipush (v := -2) hx hb dX10_end_29 (by decide) ?_
        exact hret _ _ _ _ _ _ dX10_end_31 hw hP hS
  · have hw := hw.2 c4
    refine lv_iconst (v := -1) hx hb dX10_end_7 (by decide) ?_
    exact hret _ _ _ _ _ _ dX10_end_8 hw hP hS
def b_X10_type_32 (p1 : Int64) (p2 : Int32) (Q : Int32 → VV → Prop) (fu : Nat) : Int64 → Int32 → Int32 → VV → Prop :=
  Nat.rec (motive := fun _ => Int64 → Int32 → Int32 → VV → Prop) (fun _ _ _ _ => False) (fun _ ih a1 a3 a4 v => (a4 < 0 → ∀ x75 : Int32, x75 = v 816 48 → Q x75 v) ∧ (¬ a4 < 0 → ∀ x42 : Int32, x42 = v 816 48 → ∀ x50 : Int32, x50 = 8 * a4 → ∀ x51 : Int64, x51 = a1 >>> (Int32.toInt64 x50 &&& 63) → ∀ x55 : Int64, x55 = x51 &&& 255 → ∀ x56 : Int32, x56 = x55.toInt32 → vp_in x42 64 ∧ ∀ v1 : VV, v1 = up2 v 863 (Int32.toNatClampNeg x42) x56 → ∀ x60 : Int32, x60 = v1 816 48 → ∀ x64 : Int32, x64 = x60 + 1 → ∀ v3 : VV, v3 = up2 v1 816 48 x64 → ∀ x68 : Int32, x68 = a4 + (-1) → ih a1 a3 x68 v3)) fu
set_option maxHeartbeats 4000000 in
set_option maxRecDepth 100000 in
theorem tb_X10_type_32 {p : Program} {l : Launch} {e : Env} {s : State} {m : MethodId} {args : Array Value} {below : List Frame} {meth : Method} {c : Code} {QQ : State → Prop} {dC : Nat → ClassId} {dI : Nat → Nat → Nat} {base : Nat} {cy : Nat → ClassId} (hx : p.tables.exec = Jvm.exec) (hb : c.code = cX10_type) (hml : c.maxLocals = 5) (hown : s.vm.findClass RX10 = some m.cls) (hts : ∀ w ∈ TB, w.before args s = true) (hK : va_K (dC, dI) vwCl (tyL cy) s) (p1 : Int64) (p2 : Int32) (Q : Int32 → VV → Prop) (hret : ∀ (pc : Nat) (x : Int32) (v : VV) (H : Heap) (locs : List Loc) (ls : Array Slot), decode cX10_type pc = .ok (.ireturn, 1) → Q x v → va_P (dC, dI) vwCl (Wd base cy rf v 874) H → va_S (fun q => base ≤ q) s.heap H locs → W p l e { frames := 0, cells := 0, slots := 0, locals := 0 } s m args below meth c H locs 0 0 QQ (F0 m pc ls [.int x])) : ∀ (fu : Nat) (a1 : Int64) (a3 : Int32) (a4 : Int32) (v : VV) (H : Heap) (locs : List Loc) (ls : Array Slot), b_X10_type_32 p1 p2 Q  fu a1 a3 a4 v → lv_has ls 5 [(0, .ref (base + 816)), (1, .long a1), (3, .int a3), (4, .int a4)] → va_P (dC, dI) vwCl (Wd base cy rf v 874) H → va_S (fun q => base ≤ q) s.heap H locs → W p l e { frames := 0, cells := 0, slots := 0, locals := 0 } s m args below meth c H locs 0 0 QQ (F0 m 32 ls []) := by
  intro fu
  induction fu with
  | zero =>
    intro a1 a3 a4 v H locs ls hw hl hP hS
    exact hw.elim
  | succ fu ih =>
    intro a1 a3 a4 v H locs ls hw hl hP hS
    refine lv_iload hx hb dX10_type_32 (lv_at hl 3 rfl) ?_
    refine lv_if_lt (tgt := 74) hx hb dX10_type_34 (by decide) (fun c34 => ?_) (fun c34 => ?_)
    · have hw := hw.1 c34
      refine lv_aload_n hx hb dX10_type_74 rfl (lv_at hl 0 rfl) ?_
      refine w_gI (C := RX10) (T := TX10) (N := 64) (ci := 10) hx hb hts in10 hown hK hP 48 th10.1 th10 rfl (by decide) (hts _ mf_X10_251) dX10_type_75 ?_
      refine lv_topi (fun x75 ex75 => ?_)
      have hw := hw x75 ex75
      exact hret _ _ _ _ _ _ dX10_type_78 hw hP hS
    · have hw := hw.2 c34
      refine lv_aload_n hx hb dX10_type_37 rfl (lv_at hl 0 rfl) ?_
      refine w_gR (C := RX10) (T := TX10) (N := 64) (ci := 10) hx hb hts in10 hown hK hP 47 th10.1 th10 rfl (by decide) (ch10_47 th10).1 (hts _ mf_X10_149) dX10_type_38 ?_
      refine lv_aload_n hx hb dX10_type_41 rfl (lv_at hl 0 rfl) ?_
      refine w_gI (C := RX10) (T := TX10) (N := 64) (ci := 10) hx hb hts in10 hown hK hP 48 th10.1 th10 rfl (by decide) (hts _ mf_X10_251) dX10_type_42 ?_
      refine lv_topi (fun x42 ex42 => ?_)
      have hw := hw x42 ex42
      refine lv_lload_n hx hb dX10_type_45 rfl (lv_at hl 1 rfl) ?_
      refine lv_bipush (v := 8) hx hb dX10_type_46 (by decide) ?_
      refine lv_iload hx hb dX10_type_48 (lv_at hl 3 rfl) ?_
      refine lv_imul hx hb dX10_type_50 ?_
      refine lv_topi (fun x50 ex50 => ?_)
      have hw := hw x50 ex50
      refine lv_lshr hx hb dX10_type_51 rfl ?_
      refine lv_topl (fun x51 ex51 => ?_)
      have hw := hw x51 ex51
      refine lv_ldc2 (v := 255) hx hb hown (hts _ mkl_X10_254) dX10_type_52 ?_
      refine lv_land hx hb dX10_type_55 ?_
      refine lv_topl (fun x55 ex55 => ?_)
      have hw := hw x55 ex55
      refine lv_l2i hx hb dX10_type_56 rfl ?_
      refine lv_topi (fun x56 ex56 => ?_)
      have hw := hw x56 ex56
      obtain ⟨hi2, hw⟩ := hw
      refine w_is (N := 64) hx hb hK hP hS (ch10_47 th10).2.1.1 (ch10_47 th10).2.1 (ch10_47 th10).2.2 hi2 dX10_type_57 (fun v1 H locs hv1 hP hz hS => ?_)
      have hw := hw v1 hv1
      refine lv_aload_n hx hb dX10_type_58 rfl (lv_at hl 0 rfl) ?_
      refine lv_dup hx hb dX10_type_59 rfl ?_
      refine w_gI (C := RX10) (T := TX10) (N := 64) (ci := 10) hx hb hts in10 hown hK hP 48 th10.1 th10 rfl (by decide) (hts _ mf_X10_251) dX10_type_60 ?_
      refine lv_topi (fun x60 ex60 => ?_)
      have hw := hw x60 ex60
      refine lv_iconst (v := 1) hx hb dX10_type_63 (by decide) ?_
      refine lv_iadd hx hb dX10_type_64 ?_
      refine lv_topi (fun x64 ex64 => ?_)
      have hw := hw x64 ex64
      refine w_pI (C := RX10) (T := TX10) (N := 64) (ci := 10) hx hb hts in10 tyX10 tyX10_ok nmX10 hown hK hP hS 48 th10.1 th10 rfl (by decide) (hts _ mf_X10_251) rfl (ty := .int) (by decide +kernel) rfl rfl dX10_type_65 (fun v3 H locs hv3 hP hz hS => ?_)
      have hw := hw v3 hv3
      obtain ⟨x68, ex68⟩ : ∃ y : Int32, y = a4 + (-1) := ⟨_, rfl⟩
      have hw := hw x68 ex68
      refine lv_iinc (v := x68) (lv' := [(4, .int x68), (0, .ref (base + 816)), (1, .long a1), (3, .int a3)]) hx hb dX10_type_68 hl (k := 3) rfl (by rw [ex68]; first | rfl | (rw [show Int32.ofInt (-1) = (-1 : Int32) from by decide])) (by decide) rfl (fun ls hl => ?_)
      refine lv_goto (tgt := 32) hx hb dX10_type_71 (by decide) ?_
      exact ih a1 a3 x68 v3 _ _ _ hw (lv_sub hl [1, 2, 3, 0] rfl) hP hS
def b_X10_type_11 (p1 : Int64) (p2 : Int32) (Q : Int32 → VV → Prop) (a1 : Int64) (a3 : Int32) (v : VV) : Prop :=
  Q ((-1)) v
set_option maxHeartbeats 4000000 in
set_option maxRecDepth 100000 in
theorem tb_X10_type_11 {p : Program} {l : Launch} {e : Env} {s : State} {m : MethodId} {args : Array Value} {below : List Frame} {meth : Method} {c : Code} {QQ : State → Prop} {dC : Nat → ClassId} {dI : Nat → Nat → Nat} {base : Nat} {cy : Nat → ClassId} (hx : p.tables.exec = Jvm.exec) (hb : c.code = cX10_type) (hml : c.maxLocals = 5) (hown : s.vm.findClass RX10 = some m.cls) (hts : ∀ w ∈ TB, w.before args s = true) (hK : va_K (dC, dI) vwCl (tyL cy) s) (p1 : Int64) (p2 : Int32) (Q : Int32 → VV → Prop) (hret : ∀ (pc : Nat) (x : Int32) (v : VV) (H : Heap) (locs : List Loc) (ls : Array Slot), decode cX10_type pc = .ok (.ireturn, 1) → Q x v → va_P (dC, dI) vwCl (Wd base cy rf v 874) H → va_S (fun q => base ≤ q) s.heap H locs → W p l e { frames := 0, cells := 0, slots := 0, locals := 0 } s m args below meth c H locs 0 0 QQ (F0 m pc ls [.int x])) (a1 : Int64) (a3 : Int32) (v : VV) (H : Heap) (locs : List Loc) (ls : Array Slot) (hw : b_X10_type_11 p1 p2 Q  a1 a3 v) : lv_has ls 5 [(0, .ref (base + 816)), (1, .long a1), (3, .int a3)] → va_P (dC, dI) vwCl (Wd base cy rf v 874) H → va_S (fun q => base ≤ q) s.heap H locs → W p l e { frames := 0, cells := 0, slots := 0, locals := 0 } s m args below meth c H locs 0 0 QQ (F0 m 11 ls []) := by
  intro hl hP hS
  refine lv_iconst (v := -1) hx hb dX10_type_11 (by decide) ?_
  exact hret _ _ _ _ _ _ dX10_type_12 hw hP hS
def w_X10_type (p1 : Int64) (p2 : Int32) (v : VV) (Q : Int32 → VV → Prop) : Prop :=
  (p2 < 1 → b_X10_type_11 p1 p2 Q  p1 p2 v) ∧ (¬ p2 < 1 → (p2 ≤ 8 → ∀ x14 : Int32, x14 = v 816 48 → ∀ x18 : Int32, x18 = x14 + p2 → (x18 ≤ 64 → ∀ x29 : Int32, x29 = p2 - 1 → ∃ fu : Nat, b_X10_type_32 p1 p2 Q  fu p1 p2 x29 v) ∧ (¬ x18 ≤ 64 → Q ((-3)) v)) ∧ (¬ p2 ≤ 8 → b_X10_type_11 p1 p2 Q  p1 p2 v))
set_option maxHeartbeats 4000000 in
set_option maxRecDepth 100000 in
/-- TransportFourModel.type -/
theorem t_X10_type (l : Launch) (dC : Nat → ClassId) (dI : Nat → Nat → Nat) (base : Nat) (cy : Nat → ClassId) (p1 : Int64) (p2 : Int32) (v : VV) (Q : Int32 → VV → Prop) (hw : w_X10_type p1 p2 v Q) : CI l yX10_type (.code yX10_type cX10_type 5 (some .int) :: TB) { frames := 0, cells := 0, slots := 0, locals := 0 } dC dI base cy [.ref (base + 816), .long p1, .int p2] v Q := by
  refine Met.ofW (cc := cX10_type) (maxL := 5) (ret := (some .int)) (by decide) rfl ?_
  intro p e s m args below meth c s₁ B hml hv
  obtain ⟨rfl, hP, hK⟩ := hv
  have hx := B.exec
  have hb := B.bytes
  have hr := B.returns
  have hts0 := atoms_spec (ws := (.code yX10_type cX10_type 5 (some .int) :: TB)) B.pre
  have hts : ∀ w ∈ TB, w.before ([.ref (base + 816), .long p1, .int p2]).toArray s = true := fun w h => hts0 w (List.mem_cons_of_mem _ h)
  have hown : s.vm.findClass RX10 = some m.cls := findClass_of_methodNamed B.named
  have hlocks := B.notSynchronized
  have hS : va_S (fun q => base ≤ q) s.heap s.heap [] := va_S.rf
  have hl := lv_entry ([.ref (base + 816), .long p1, .int p2]) (n := 5) (Nat.le_of_ble_eq_true rfl)
  rw [lg_entry_eq]
  generalize (lg_sl ([.ref (base + 816), .long p1, .int p2]) ++ List.replicate (5 - (lg_sl ([.ref (base + 816), .long p1, .int p2])).length) Slot.unset).toArray = ls at hl ⊢
  have hl : lv_has ls 5 [(0, .ref (base + 816)), (1, .long p1), (3, .int p2)] := hl
  have hret : ∀ (pc : Nat) (x : Int32) (v : VV) (H : Heap) (locs : List Loc) (ls : Array Slot), decode cX10_type pc = .ok (.ireturn, 1) → Q x v → va_P (dC, dI) vwCl (Wd base cy rf v 874) H → va_S (fun q => base ≤ q) s.heap H locs → W p l e { frames := 0, cells := 0, slots := 0, locals := 0 } s m ([.ref (base + 816), .long p1, .int p2]).toArray below meth c H locs 0 0 (MQ below (va_Qi Q (Hp dC dI base cy) (fun q => base ≤ q)) ([.ref (base + 816), .long p1, .int p2]).toArray s 0 0 (fun q => base ≤ q)) (F0 m pc ls [.int x]) := fun pc x v H locs ls hd hq hP hS => W.iret (v := x) hx hb hr (fun t ht hW => ⟨⟨x, v, rfl, hq, by rw [ht]; exact hP, va_K.moved hW.alike hK⟩, hS.F ht⟩) hS.2.2 hd
  refine lv_iload_n hx hb dX10_type_0 rfl (lv_at hl 2 rfl) ?_
  refine lv_iconst (v := 1) hx hb dX10_type_1 (by decide) ?_
  refine lv_icmp_lt (tgt := 11) hx hb dX10_type_2 (by decide) (fun c2 => ?_) (fun c2 => ?_)
  · have hw := hw.1 c2
    exact tb_X10_type_11 hx hb hml hown hts hK p1 p2 _ hret  p1 p2 v _ _ _ hw (lv_sub hl [0, 1, 2] rfl) hP hS
  · have hw := hw.2 c2
    refine lv_iload_n hx hb dX10_type_5 rfl (lv_at hl 2 rfl) ?_
    refine lv_bipush (v := 8) hx hb dX10_type_6 (by decide) ?_
    refine lv_icmp_le (tgt := 13) hx hb dX10_type_8 (by decide) (fun c8 => ?_) (fun c8 => ?_)
    · have hw := hw.1 c8
      refine lv_aload_n hx hb dX10_type_13 rfl (lv_at hl 0 rfl) ?_
      refine w_gI (C := RX10) (T := TX10) (N := 64) (ci := 10) hx hb hts in10 hown hK hP 48 th10.1 th10 rfl (by decide) (hts _ mf_X10_251) dX10_type_14 ?_
      refine lv_topi (fun x14 ex14 => ?_)
      have hw := hw x14 ex14
      refine lv_iload_n hx hb dX10_type_17 rfl (lv_at hl 2 rfl) ?_
      refine lv_iadd hx hb dX10_type_18 ?_
      refine lv_topi (fun x18 ex18 => ?_)
      have hw := hw x18 ex18
      refine lv_bipush (v := 64) hx hb dX10_type_19 (by decide) ?_
      refine lv_icmp_le (tgt := 27) hx hb dX10_type_21 (by decide) (fun c21 => ?_) (fun c21 => ?_)
      · have hw := hw.1 c21
        refine lv_iload_n hx hb dX10_type_27 rfl (lv_at hl 2 rfl) ?_
        refine lv_iconst (v := 1) hx hb dX10_type_28 (by decide) ?_
        refine lv_isub hx hb dX10_type_29 ?_
        refine lv_topi (fun x29 ex29 => ?_)
        have hw := hw x29 ex29
        refine lv_istore (lv' := [(4, .int x29), (0, .ref (base + 816)), (1, .long p1), (3, .int p2)]) hx hb dX10_type_30 hl (by decide) rfl (fun ls hl => ?_)
        obtain ⟨fu, hw⟩ := hw
        exact tb_X10_type_32 hx hb hml hown hts hK p1 p2 _ hret  fu p1 p2 x29 v _ _ _ hw (lv_sub hl [1, 2, 3, 0] rfl) hP hS
      · have hw := hw.2 c21
        refine lv_bipush (v := -3) hx hb dX10_type_24 (by decide) ?_
        exact hret _ _ _ _ _ _ dX10_type_26 hw hP hS
    · have hw := hw.2 c8
      exact tb_X10_type_11 hx hb hml hown hts hK p1 p2 _ hret  p1 p2 v _ _ _ hw (lv_sub hl [0, 1, 2] rfl) hP hS
