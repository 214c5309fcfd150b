def b_X10_arrive_138 (p1 : Int32) (Q : VV → Prop) (a1 : Int32) (a2 : Int32) (a3 : Int32) (v : VV) : Prop :=
  (¬ a2 = 208 → (¬ a2 = 96 → (¬ a2 = 240 → (¬ a2 = 16 → (¬ a2 = 32 → (¬ a2 = 128 → vp_in a1 2 ∧ ∀ x230 : Int32, x230 = v 817 (Int32.toNatClampNeg a1) → (¬ x230 = 3 → Q v) ∧ (x230 = 3 → w_X10_freeze a1 v (fun (v2 : VV) => Q v2))) ∧ (a2 = 128 → w_X10_arriveEnd a1 v (fun (v3 : VV) => Q v3))) ∧ (a2 = 32 → w_X10_arriveUrgentReceipt a1 v (fun (v4 : VV) => Q v4))) ∧ (a2 = 16 → w_X10_arriveUrgent a1 v (fun (v5 : VV) => Q v5))) ∧ (a2 = 240 → w_X10_arriveData a1 v (fun (v6 : VV) => Q v6))) ∧ (a2 = 96 → w_X10_arriveReceipt a1 v (fun (v7 : VV) => Q v7))) ∧ (a2 = 208 → w_X10_arriveAnswer a1 v (fun (v8 : VV) => Q v8))
set_option maxHeartbeats 4000000 in
set_option maxRecDepth 100000 in
theorem tb_X10_arrive_138 {p : Program} {l : Launch} {e : Env} {s : State} {m : MethodId} {args : Array Value} {below : List Frame} {meth : Method} {c : Code} {QQ : State → Prop} {dC : Nat → ClassId} {dI : Nat → Nat → Nat} {base : Nat} {cy : Nat → ClassId} (hx : p.tables.exec = Jvm.exec) (hb : c.code = cX10_arrive) (hml : c.maxLocals = 4) (hown : s.vm.findClass RX10 = some m.cls) (hts : ∀ w ∈ TB, w.before args s = true) (hK : va_K (dC, dI) vwCl (tyL cy) s) (p1 : Int32) (Q : VV → Prop) (hret : ∀ (pc : Nat) (v : VV) (H : Heap) (locs : List Loc) (ls : Array Slot), decode cX10_arrive pc = .ok (.return_, 1) → Q v → va_P (dC, dI) vwCl (Wd base cy rf v 874) H → va_S (fun q => base ≤ q) s.heap H locs → W p l e { frames := 5, cells := 0, slots := 0, locals := 115 } s m args below meth c H locs 0 0 QQ (F0 m pc ls [])) (a1 : Int32) (a2 : Int32) (a3 : Int32) (v : VV) (H : Heap) (locs : List Loc) (ls : Array Slot) (hw : b_X10_arrive_138 p1 Q  a1 a2 a3 v) : lv_has ls 4 [(0, .ref (base + 816)), (1, .int a1), (2, .int a2), (3, .int a3)] → va_P (dC, dI) vwCl (Wd base cy rf v 874) H → va_S (fun q => base ≤ q) s.heap H locs → W p l e { frames := 5, cells := 0, slots := 0, locals := 115 } s m args below meth c H locs 0 0 QQ (F0 m 138 ls []) := by
  intro hl hP hS
  refine lv_iload_n hx hb dX10_arrive_138 rfl (lv_at hl 2 rfl) ?_
  refine lv_sipush (v := 208) hx hb dX10_arrive_139 (by decide) ?_
  refine lv_icmp_ne (tgt := 153) hx hb dX10_arrive_142 (by decide) (fun c142 => ?_) (fun c142 => ?_)
  · have hw := hw.1 c142
    refine lv_iload_n hx hb dX10_arrive_153 rfl (lv_at hl 2 rfl) ?_
    refine lv_bipush (v := 96) hx hb dX10_arrive_154 (by decide) ?_
    refine lv_icmp_ne (tgt := 167) hx hb dX10_arrive_156 (by decide) (fun c156 => ?_) (fun c156 => ?_)
    · have hw := hw.1 c156
      refine lv_iload_n hx hb dX10_arrive_167 rfl (lv_at hl 2 rfl) ?_
      refine lv_sipush (v := 240) hx hb dX10_arrive_168 (by decide) ?_
      refine lv_icmp_ne (tgt := 182) hx hb dX10_arrive_171 (by decide) (fun c171 => ?_) (fun c171 => ?_)
      · have hw := hw.1 c171
        refine lv_iload_n hx hb dX10_arrive_182 rfl (lv_at hl 2 rfl) ?_
        refine lv_bipush (v := 16) hx hb dX10_arrive_183 (by decide) ?_
        refine lv_icmp_ne (tgt := 196) hx hb dX10_arrive_185 (by decide) (fun c185 => ?_) (fun c185 => ?_)
        · have hw := hw.1 c185
          refine lv_iload_n hx hb dX10_arrive_196 rfl (lv_at hl 2 rfl) ?_
          refine lv_bipush (v := 32) hx hb dX10_arrive_197 (by decide) ?_
          refine lv_icmp_ne (tgt := 210) hx hb dX10_arrive_199 (by decide) (fun c199 => ?_) (fun c199 => ?_)
          · have hw := hw.1 c199
            refine lv_iload_n hx hb dX10_arrive_210 rfl (lv_at hl 2 rfl) ?_
            refine lv_sipush (v := 128) hx hb dX10_arrive_211 (by decide) ?_
            refine lv_icmp_ne (tgt := 225) hx hb dX10_arrive_214 (by decide) (fun c214 => ?_) (fun c214 => ?_)
            · have hw := hw.1 c214
              refine lv_aload_n hx hb dX10_arrive_225 rfl (lv_at hl 0 rfl) ?_
              refine w_gR (C := RX10) (T := TX10) (N := 64) (ci := 10) hx hb hts in10 hown hK hP 1 th10.1 th10 rfl (by decide) (ch10_1 th10).1 (hts _ mf_X10_7) dX10_arrive_226 ?_
              refine lv_iload_n hx hb dX10_arrive_229 rfl (lv_at hl 1 rfl) ?_
              obtain ⟨hi1, hw⟩ := hw
              refine w_ia (N := 2) hx hb hK hP (ch10_1 th10).2.1.1 (ch10_1 th10).2.1 (ch10_1 th10).2.2 hi1 dX10_arrive_230 ?_
              refine lv_topi (fun x230 ex230 => ?_)
              have hw := hw x230 ex230
              refine lv_iconst (v := 3) hx hb dX10_arrive_231 (by decide) ?_
              refine lv_icmp_ne (tgt := 240) hx hb dX10_arrive_232 (by decide) (fun c232 => ?_) (fun c232 => ?_)
              · have hw := hw.1 c232
                exact hret _ _ _ _ _ dX10_arrive_240 hw hP hS
              · have hw := hw.2 c232
                refine lv_aload_n hx hb dX10_arrive_235 rfl (lv_at hl 0 rfl) ?_
                refine lv_iload_n hx hb dX10_arrive_236 rfl (lv_at hl 1 rfl) ?_
                refine k_V (As := [.int a1]) (rest := []) ⟨hx, hb, hml, hown, hts⟩ (t_X10_freeze l dC dI base cy a1 v _ hw) (cwV 1 hts (gV ml_X10_248 mi_X10_freeze mx_X10_freeze mn_X10 mo_X10_freeze) rfl rfl rfl (by decide +kernel) ⟨by decide, by decide⟩) hK hP hS th10 (by decide) rfl rfl hl.1 rfl (Nat.le_of_ble_eq_true rfl) dX10_arrive_237 ⟨Nat.zero_le _, Nat.zero_le _⟩ (fun v2 H locs hw hP hS => ?_)
                exact hret _ _ _ _ _ dX10_arrive_240 hw hP hS
            · have hw := hw.2 c214
              refine lv_aload_n hx hb dX10_arrive_217 rfl (lv_at hl 0 rfl) ?_
              refine lv_iload_n hx hb dX10_arrive_218 rfl (lv_at hl 1 rfl) ?_
              refine k_V (As := [.int a1]) (rest := []) ⟨hx, hb, hml, hown, hts⟩ (t_X10_arriveEnd l dC dI base cy a1 v _ hw) (cwV 1 hts (gV ml_X10_299 mi_X10_arriveEnd mx_X10_arriveEnd mn_X10 mo_X10_arriveEnd) rfl rfl rfl (by decide +kernel) ⟨by decide, by decide⟩) hK hP hS th10 (by decide) rfl rfl hl.1 rfl (Nat.le_of_ble_eq_true rfl) dX10_arrive_219 ⟨Nat.zero_le _, Nat.zero_le _⟩ (fun v3 H locs hw hP hS => ?_)
              refine lv_goto (tgt := 240) hx hb dX10_arrive_222 (by decide) ?_
              exact hret _ _ _ _ _ dX10_arrive_240 hw hP hS
          · have hw := hw.2 c199
            refine lv_aload_n hx hb dX10_arrive_202 rfl (lv_at hl 0 rfl) ?_
            refine lv_iload_n hx hb dX10_arrive_203 rfl (lv_at hl 1 rfl) ?_
            refine k_V (As := [.int a1]) (rest := []) ⟨hx, hb, hml, hown, hts⟩ (t_X10_arriveUrgentReceipt l dC dI base cy a1 v _ hw) (cwV 1 hts (gV ml_X10_296 mi_X10_arriveUrgentReceipt mx_X10_arriveUrgentReceipt mn_X10 mo_X10_arriveUrgentReceipt) rfl rfl rfl (by decide +kernel) ⟨by decide, by decide⟩) hK hP hS th10 (by decide) rfl rfl hl.1 rfl (Nat.le_of_ble_eq_true rfl) dX10_arrive_204 ⟨Nat.zero_le _, Nat.zero_le _⟩ (fun v4 H locs hw hP hS => ?_)
            refine lv_goto (tgt := 240) hx hb dX10_arrive_207 (by decide) ?_
            exact hret _ _ _ _ _ dX10_arrive_240 hw hP hS
        · have hw := hw.2 c185
          refine lv_aload_n hx hb dX10_arrive_188 rfl (lv_at hl 0 rfl) ?_
          refine lv_iload_n hx hb dX10_arrive_189 rfl (lv_at hl 1 rfl) ?_
          refine k_V (As := [.int a1]) (rest := []) ⟨hx, hb, hml, hown, hts⟩ (t_X10_arriveUrgent l dC dI base cy a1 v _ hw) (cwV 1 hts (gV ml_X10_293 mi_X10_arriveUrgent mx_X10_arriveUrgent mn_X10 mo_X10_arriveUrgent) rfl rfl rfl (by decide +kernel) ⟨by decide, by decide⟩) hK hP hS th10 (by decide) rfl rfl hl.1 rfl (Nat.le_of_ble_eq_true rfl) dX10_arrive_190 ⟨Nat.zero_le _, Nat.zero_le _⟩ (fun v5 H locs hw hP hS => ?_)
          refine lv_goto (tgt := 240) hx hb dX10_arrive_193 (by decide) ?_
          exact hret _ _ _ _ _ dX10_arrive_240 hw hP hS
      · have hw := hw.2 c171
        refine lv_aload_n hx hb dX10_arrive_174 rfl (lv_at hl 0 rfl) ?_
        refine lv_iload_n hx hb dX10_arrive_175 rfl (lv_at hl 1 rfl) ?_
        refine k_V (As := [.int a1]) (rest := []) ⟨hx, hb, hml, hown, hts⟩ (t_X10_arriveData l dC dI base cy a1 v _ hw) (cwV 1 hts (gV ml_X10_290 mi_X10_arriveData mx_X10_arriveData mn_X10 mo_X10_arriveData) rfl rfl rfl (by decide +kernel) ⟨by decide, by decide⟩) hK hP hS th10 (by decide) rfl rfl hl.1 rfl (Nat.le_of_ble_eq_true rfl) dX10_arrive_176 ⟨Nat.zero_le _, Nat.zero_le _⟩ (fun v6 H locs hw hP hS => ?_)
        refine lv_goto (tgt := 240) hx hb dX10_arrive_179 (by decide) ?_
        exact hret _ _ _ _ _ dX10_arrive_240 hw hP hS
    · have hw := hw.2 c156
      refine lv_aload_n hx hb dX10_arrive_159 rfl (lv_at hl 0 rfl) ?_
      refine lv_iload_n hx hb dX10_arrive_160 rfl (lv_at hl 1 rfl) ?_
      refine k_V (As := [.int a1]) (rest := []) ⟨hx, hb, hml, hown, hts⟩ (t_X10_arriveReceipt l dC dI base cy a1 v _ hw) (cwV 1 hts (gV ml_X10_287 mi_X10_arriveReceipt mx_X10_arriveReceipt mn_X10 mo_X10_arriveReceipt) rfl rfl rfl (by decide +kernel) ⟨by decide, by decide⟩) hK hP hS th10 (by decide) rfl rfl hl.1 rfl (Nat.le_of_ble_eq_true rfl) dX10_arrive_161 ⟨Nat.zero_le _, Nat.zero_le _⟩ (fun v7 H locs hw hP hS => ?_)
      refine lv_goto (tgt := 240) hx hb dX10_arrive_164 (by decide) ?_
      exact hret _ _ _ _ _ dX10_arrive_240 hw hP hS
  · have hw := hw.2 c142
    refine lv_aload_n hx hb dX10_arrive_145 rfl (lv_at hl 0 rfl) ?_
    refine lv_iload_n hx hb dX10_arrive_146 rfl (lv_at hl 1 rfl) ?_
    refine k_V (As := [.int a1]) (rest := []) ⟨hx, hb, hml, hown, hts⟩ (t_X10_arriveAnswer l dC dI base cy a1 v _ hw) (cwV 1 hts (gV ml_X10_284 mi_X10_arriveAnswer mx_X10_arriveAnswer mn_X10 mo_X10_arriveAnswer) rfl rfl rfl (by decide +kernel) ⟨by decide, by decide⟩) hK hP hS th10 (by decide) rfl rfl hl.1 rfl (Nat.le_of_ble_eq_true rfl) dX10_arrive_147 ⟨Nat.zero_le _, Nat.zero_le _⟩ (fun v8 H locs hw hP hS => ?_)
    refine lv_goto (tgt := 240) hx hb dX10_arrive_150 (by decide) ?_
    exact hret _ _ _ _ _ dX10_arrive_240 hw hP hS
def b_X10_arrive_70 (p1 : Int32) (Q : VV → Prop) (a1 : Int32) (a2 : Int32) (s0 : Int32) (v : VV) : Prop :=
  (¬ s0 = 0 → ∀ x108 : Int32, x108 = v 816 0 → vp_in a1 2 ∧ ∀ v1 : VV, v1 = up2 v 824 (Int32.toNatClampNeg a1) x108 → vp_in a1 2 ∧ ∀ x117 : Int32, x117 = v1 817 (Int32.toNatClampNeg a1) → (¬ x117 = 2 → b_X10_arrive_138 p1 Q  a1 a2 s0 v1) ∧ (x117 = 2 → vp_in a1 2 ∧ ∀ x127 : Int32, x127 = v1 820 (Int32.toNatClampNeg a1) → (x127 = 0 → b_X10_arrive_138 p1 Q  a1 a2 s0 v1) ∧ (¬ x127 = 0 → vp_in a1 2 ∧ ∀ v5 : VV, v5 = up2 v1 825 (Int32.toNatClampNeg a1) 0 → b_X10_arrive_138 p1 Q  a1 a2 s0 v5))) ∧ (s0 = 0 → (¬ a2 = 128 → Q v) ∧ (a2 = 128 → w_X10_two 4 v (fun (x89 : Int32) (v7 : VV) => w_X10_two 2 v7 (fun (x94 : Int32) (v8 : VV) => w_X10_sendCode a1 192 x89 x94 ((-1)) v8 (fun (v9 : VV) => Q v9)))))
set_option maxHeartbeats 4000000 in
set_option maxRecDepth 100000 in
theorem tb_X10_arrive_70 {p : Program} {l : Launch} {e : Env} {s : State} {m : MethodId} {args : Array Value} {below : List Frame} {meth : Method} {c : Code} {QQ : State → Prop} {dC : Nat → ClassId} {dI : Nat → Nat → Nat} {base : Nat} {cy : Nat → ClassId} (hx : p.tables.exec = Jvm.exec) (hb : c.code = cX10_arrive) (hml : c.maxLocals = 4) (hown : s.vm.findClass RX10 = some m.cls) (hts : ∀ w ∈ TB, w.before args s = true) (hK : va_K (dC, dI) vwCl (tyL cy) s) (p1 : Int32) (Q : VV → Prop) (hret : ∀ (pc : Nat) (v : VV) (H : Heap) (locs : List Loc) (ls : Array Slot), decode cX10_arrive pc = .ok (.return_, 1) → Q v → va_P (dC, dI) vwCl (Wd base cy rf v 874) H → va_S (fun q => base ≤ q) s.heap H locs → W p l e { frames := 5, cells := 0, slots := 0, locals := 115 } s m args below meth c H locs 0 0 QQ (F0 m pc ls [])) (a1 : Int32) (a2 : Int32) (s0 : Int32) (v : VV) (H : Heap) (locs : List Loc) (ls : Array Slot) (hw : b_X10_arrive_70 p1 Q  a1 a2 s0 v) : lv_has ls 4 [(0, .ref (base + 816)), (1, .int a1), (2, .int a2)] → va_P (dC, dI) vwCl (Wd base cy rf v 874) H → va_S (fun q => base ≤ q) s.heap H locs → W p l e { frames := 5, cells := 0, slots := 0, locals := 115 } s m args below meth c H locs 0 0 QQ (F0 m 70 ls [.int s0]) := by
  intro hl hP hS
  refine lv_istore_n (lv' := [(3, .int s0), (0, .ref (base + 816)), (1, .int a1), (2, .int a2)]) hx hb dX10_arrive_70 rfl hl (by decide) rfl (fun ls hl => ?_)
  refine lv_iload_n hx hb dX10_arrive_71 rfl (lv_at hl 0 rfl) ?_
  refine lv_if_ne (tgt := 102) hx hb dX10_arrive_72 (by decide) (fun c72 => ?_) (fun c72 => ?_)
  · have hw := hw.1 c72
    refine lv_aload_n hx hb dX10_arrive_102 rfl (lv_at hl 1 rfl) ?_
    refine w_gR (C := RX10) (T := TX10) (N := 64) (ci := 10) hx hb hts in10 hown hK hP 8 th10.1 th10 rfl (by decide) (ch10_8 th10).1 (hts _ mf_X10_32) dX10_arrive_103 ?_
    refine lv_iload_n hx hb dX10_arrive_106 rfl (lv_at hl 2 rfl) ?_
    refine lv_aload_n hx hb dX10_arrive_107 rfl (lv_at hl 1 rfl) ?_
    refine w_gI (C := RX10) (T := TX10) (N := 64) (ci := 10) hx hb hts in10 hown hK hP 0 th10.1 th10 rfl (by decide) (hts _ mf_X10_198) dX10_arrive_108 ?_
    refine lv_topi (fun x108 ex108 => ?_)
    have hw := hw x108 ex108
    obtain ⟨hi2, hw⟩ := hw
    refine w_is (N := 2) hx hb hK hP hS (ch10_8 th10).2.1.1 (ch10_8 th10).2.1 (ch10_8 th10).2.2 hi2 dX10_arrive_111 (fun v1 H locs hv1 hP hz hS => ?_)
    have hw := hw v1 hv1
    refine lv_aload_n hx hb dX10_arrive_112 rfl (lv_at hl 1 rfl) ?_
    refine w_gR (C := RX10) (T := TX10) (N := 64) (ci := 10) hx hb hts in10 hown hK hP 1 th10.1 th10 rfl (by decide) (ch10_1 th10).1 (hts _ mf_X10_7) dX10_arrive_113 ?_
    refine lv_iload_n hx hb dX10_arrive_116 rfl (lv_at hl 2 rfl) ?_
    obtain ⟨hi3, hw⟩ := hw
    refine w_ia (N := 2) hx hb hK hP (ch10_1 th10).2.1.1 (ch10_1 th10).2.1 (ch10_1 th10).2.2 hi3 dX10_arrive_117 ?_
    refine lv_topi (fun x117 ex117 => ?_)
    have hw := hw x117 ex117
    refine lv_iconst (v := 2) hx hb dX10_arrive_118 (by decide) ?_
    refine lv_icmp_ne (tgt := 138) hx hb dX10_arrive_119 (by decide) (fun c119 => ?_) (fun c119 => ?_)
    · have hw := hw.1 c119
      exact tb_X10_arrive_138 hx hb hml hown hts hK p1 _ hret  a1 a2 s0 v1 _ _ _ hw (lv_sub hl [1, 2, 3, 0] rfl) hP hS
    · have hw := hw.2 c119
      refine lv_aload_n hx hb dX10_arrive_122 rfl (lv_at hl 1 rfl) ?_
      refine w_gR (C := RX10) (T := TX10) (N := 64) (ci := 10) hx hb hts in10 hown hK hP 4 th10.1 th10 rfl (by decide) (ch10_4 th10).1 (hts _ mf_X10_19) dX10_arrive_123 ?_
      refine lv_iload_n hx hb dX10_arrive_126 rfl (lv_at hl 2 rfl) ?_
      obtain ⟨hi4, hw⟩ := hw
      refine w_za (N := 2) hx hb hK hP (ch10_4 th10).2.1.1 (ch10_4 th10).2.1 (ch10_4 th10).2.2 hi4 dX10_arrive_127 ?_
      refine lv_topi (fun x127 ex127 => ?_)
      have hw := hw x127 ex127
      refine lv_if_eq (tgt := 138) hx hb dX10_arrive_128 (by decide) (fun c128 => ?_) (fun c128 => ?_)
      · have hw := hw.1 c128
        exact tb_X10_arrive_138 hx hb hml hown hts hK p1 _ hret  a1 a2 s0 v1 _ _ _ hw (lv_sub hl [1, 2, 3, 0] rfl) hP hS
      · have hw := hw.2 c128
        refine lv_aload_n hx hb dX10_arrive_131 rfl (lv_at hl 1 rfl) ?_
        refine w_gR (C := RX10) (T := TX10) (N := 64) (ci := 10) hx hb hts in10 hown hK hP 9 th10.1 th10 rfl (by decide) (ch10_9 th10).1 (hts _ mf_X10_35) dX10_arrive_132 ?_
        refine lv_iload_n hx hb dX10_arrive_135 rfl (lv_at hl 2 rfl) ?_
        refine lv_iconst (v := 0) hx hb dX10_arrive_136 (by decide) ?_
        obtain ⟨hi6, hw⟩ := hw
        refine w_is (N := 2) hx hb hK hP hS (ch10_9 th10).2.1.1 (ch10_9 th10).2.1 (ch10_9 th10).2.2 hi6 dX10_arrive_137 (fun v5 H locs hv5 hP hz hS => ?_)
        have hw := hw v5 hv5
        exact tb_X10_arrive_138 hx hb hml hown hts hK p1 _ hret  a1 a2 s0 v5 _ _ _ hw (lv_sub hl [1, 2, 3, 0] rfl) hP hS
  · have hw := hw.2 c72
    refine lv_iload_n hx hb dX10_arrive_75 rfl (lv_at hl 3 rfl) ?_
    refine lv_sipush (v := 128) hx hb dX10_arrive_76 (by decide) ?_
    refine lv_icmp_ne (tgt := 101) hx hb dX10_arrive_79 (by decide) (fun c79 => ?_) (fun c79 => ?_)
    · have hw := hw.1 c79
      exact hret _ _ _ _ _ dX10_arrive_101 hw hP hS
    · have hw := hw.2 c79
      refine lv_aload_n hx hb dX10_arrive_82 rfl (lv_at hl 1 rfl) ?_
      refine lv_iload_n hx hb dX10_arrive_83 rfl (lv_at hl 2 rfl) ?_
      refine lv_sipush (v := 192) hx hb dX10_arrive_84 (by decide) ?_
      refine lv_aload_n hx hb dX10_arrive_87 rfl (lv_at hl 1 rfl) ?_
      refine lv_iconst (v := 4) hx hb dX10_arrive_88 (by decide) ?_
      refine k_I (As := [.int 4]) (rest := [.int 192, .int a1, .ref (base + 816)]) ⟨hx, hb, hml, hown, hts⟩ (t_X10_two l dC dI base cy 4 v _ hw) (cwV 1 hts (gV ml_X10_268 mi_X10_two mx_X10_two mn_X10 mo_X10_two) rfl rfl rfl (by decide +kernel) ⟨by decide, by decide⟩) hK hP hS th10 (by decide) rfl rfl hl.1 rfl (Nat.le_of_ble_eq_true rfl) dX10_arrive_89 ⟨Nat.zero_le _, Nat.zero_le _⟩ (fun x89 v7 H locs hw hP hS => ?_)
      refine lv_aload_n hx hb dX10_arrive_92 rfl (lv_at hl 1 rfl) ?_
      refine lv_iconst (v := 2) hx hb dX10_arrive_93 (by decide) ?_
      refine k_I (As := [.int 2]) (rest := [.int x89, .int 192, .int a1, .ref (base + 816)]) ⟨hx, hb, hml, hown, hts⟩ (t_X10_two l dC dI base cy 2 v7 _ hw) (cwV 1 hts (gV ml_X10_268 mi_X10_two mx_X10_two mn_X10 mo_X10_two) rfl rfl rfl (by decide +kernel) ⟨by decide, by decide⟩) hK hP hS th10 (by decide) rfl rfl hl.1 rfl (Nat.le_of_ble_eq_true rfl) dX10_arrive_94 ⟨Nat.zero_le _, Nat.zero_le _⟩ (fun x94 v8 H locs hw hP hS => ?_)
      refine lv_iconst (v := -1) hx hb dX10_arrive_97 (by decide) ?_
      refine k_V (As := [.int a1, .int 192, .int x89, .int x94, .int ((-1))]) (rest := []) ⟨hx, hb, hml, hown, hts⟩ (t_X10_sendCode l dC dI base cy a1 192 x89 x94 ((-1)) v8 _ hw) (cwV 5 hts (gV ml_X10_238 mi_X10_sendCode mx_X10_sendCode mn_X10 mo_X10_sendCode) rfl rfl rfl (by decide +kernel) ⟨by decide, by decide⟩) hK hP hS th10 (by decide) rfl rfl hl.1 rfl (Nat.le_of_ble_eq_true rfl) dX10_arrive_98 ⟨Nat.zero_le _, Nat.zero_le _⟩ (fun v9 H locs hw hP hS => ?_)
      exact hret _ _ _ _ _ dX10_arrive_101 hw hP hS
def b_X10_arrive_69 (p1 : Int32) (Q : VV → Prop) (a1 : Int32) (a2 : Int32) (v : VV) : Prop :=
  b_X10_arrive_70 p1 Q  a1 a2 0 v
set_option maxHeartbeats 4000000 in
set_option maxRecDepth 100000 in
theorem tb_X10_arrive_69 {p : Program} {l : Launch} {e : Env} {s : State} {m : MethodId} {args : Array Value} {below : List Frame} {meth : Method} {c : Code} {QQ : State → Prop} {dC : Nat → ClassId} {dI : Nat → Nat → Nat} {base : Nat} {cy : Nat → ClassId} (hx : p.tables.exec = Jvm.exec) (hb : c.code = cX10_arrive) (hml : c.maxLocals = 4) (hown : s.vm.findClass RX10 = some m.cls) (hts : ∀ w ∈ TB, w.before args s = true) (hK : va_K (dC, dI) vwCl (tyL cy) s) (p1 : Int32) (Q : VV → Prop) (hret : ∀ (pc : Nat) (v : VV) (H : Heap) (locs : List Loc) (ls : Array Slot), decode cX10_arrive pc = .ok (.return_, 1) → Q v → va_P (dC, dI) vwCl (Wd base cy rf v 874) H → va_S (fun q => base ≤ q) s.heap H locs → W p l e { frames := 5, cells := 0, slots := 0, locals := 115 } s m args below meth c H locs 0 0 QQ (F0 m pc ls [])) (a1 : Int32) (a2 : Int32) (v : VV) (H : Heap) (locs : List Loc) (ls : Array Slot) (hw : b_X10_arrive_69 p1 Q  a1 a2 v) : lv_has ls 4 [(0, .ref (base + 816)), (1, .int a1), (2, .int a2)] → va_P (dC, dI) vwCl (Wd base cy rf v 874) H → va_S (fun q => base ≤ q) s.heap H locs → W p l e { frames := 5, cells := 0, slots := 0, locals := 115 } s m args below meth c H locs 0 0 QQ (F0 m 69 ls []) := by
  intro hl hP hS
  refine lv_iconst (v := 0) hx hb dX10_arrive_69 (by decide) ?_
  exact tb_X10_arrive_70 hx hb hml hown hts hK p1 _ hret  a1 a2 0 v _ _ _ hw (lv_sub hl [0, 1, 2] rfl) hP hS
def w_X10_arrive (p1 : Int32) (v : VV) (Q : VV → Prop) : Prop :=
  w_X10_isGood  v (fun (x1 : Int32) (v1 : VV) => (¬ x1 = 0 → ∀ x13 : Int32, x13 = v1 872 (Int32.toNatClampNeg 1) → w_X10_codeOf x13 v1 (fun (x14 : Int32) (v2 : VV) => (¬ x14 = 224 → w_X10_two 2 v2 (fun (x33 : Int32) (v3 : VV) => vp_in p1 2 ∧ ∀ x41 : Int32, x41 = v3 818 (Int32.toNatClampNeg p1) → (¬ x33 = x41 → b_X10_arrive_69 p1 Q  p1 x14 v3) ∧ (x33 = x41 → vp_in p1 2 ∧ ∀ x50 : Int32, x50 = v3 817 (Int32.toNatClampNeg p1) → (x50 < 1 → b_X10_arrive_69 p1 Q  p1 x14 v3) ∧ (¬ x50 < 1 → vp_in p1 2 ∧ ∀ x60 : Int32, x60 = v3 817 (Int32.toNatClampNeg p1) → (3 < x60 → b_X10_arrive_69 p1 Q  p1 x14 v3) ∧ (¬ 3 < x60 → b_X10_arrive_70 p1 Q  p1 x14 1 v3))))) ∧ (x14 = 224 → w_X10_arriveCall p1 v2 (fun (v7 : VV) => Q v7)))) ∧ (x1 = 0 → Q v1))
set_option maxHeartbeats 4000000 in
set_option maxRecDepth 100000 in
/-- TransportFourModel.arrive -/
theorem t_X10_arrive (l : Launch) (dC : Nat → ClassId) (dI : Nat → Nat → Nat) (base : Nat) (cy : Nat → ClassId) (p1 : Int32) (v : VV) (Q : VV → Prop) (hw : w_X10_arrive p1 v Q) : CV l yX10_arrive (.code yX10_arrive cX10_arrive 4 none :: TB) { frames := 5, cells := 0, slots := 0, locals := 115 } dC dI base cy [.ref (base + 816), .int p1] v Q := by
  refine Met.ofW (cc := cX10_arrive) (maxL := 4) (ret := none) (by decide) rfl ?_
  intro p e s m args below meth c s₁ B hml hv
  obtain ⟨rfl, hP, hK⟩ := hv
  have hx := B.exec
  have hb := B.bytes
  have hr := B.returns
  have hts0 := atoms_spec (ws := (.code yX10_arrive cX10_arrive 4 none :: TB)) B.pre
  have hts : ∀ w ∈ TB, w.before ([.ref (base + 816), .int p1]).toArray s = true := fun w h => hts0 w (List.mem_cons_of_mem _ h)
  have hown : s.vm.findClass RX10 = some m.cls := findClass_of_methodNamed B.named
  have hlocks := B.notSynchronized
  have hS : va_S (fun q => base ≤ q) s.heap s.heap [] := va_S.rf
  have hl := lv_entry ([.ref (base + 816), .int p1]) (n := 4) (Nat.le_of_ble_eq_true rfl)
  rw [lg_entry_eq]
  generalize (lg_sl ([.ref (base + 816), .int p1]) ++ List.replicate (4 - (lg_sl ([.ref (base + 816), .int p1])).length) Slot.unset).toArray = ls at hl ⊢
  have hl : lv_has ls 4 [(0, .ref (base + 816)), (1, .int p1)] := hl
  have hret : ∀ (pc : Nat) (v : VV) (H : Heap) (locs : List Loc) (ls : Array Slot), decode cX10_arrive pc = .ok (.return_, 1) → Q v → va_P (dC, dI) vwCl (Wd base cy rf v 874) H → va_S (fun q => base ≤ q) s.heap H locs → W p l e { frames := 5, cells := 0, slots := 0, locals := 115 } s m ([.ref (base + 816), .int p1]).toArray below meth c H locs 0 0 (MQ below (va_Qv Q (Hp dC dI base cy) (fun q => base ≤ q)) ([.ref (base + 816), .int p1]).toArray s 0 0 (fun q => base ≤ q)) (F0 m pc ls []) := fun pc v H locs ls hd hq hP hS => W.vret hx hb hr (fun t ht hW => ⟨⟨v, rfl, hq, by rw [ht]; exact hP, va_K.moved hW.alike hK⟩, hS.F ht⟩) hS.2.2 hd
  refine lv_aload_n hx hb dX10_arrive_0 rfl (lv_at hl 0 rfl) ?_
  refine k_I (As := []) (rest := []) ⟨hx, hb, hml, hown, hts⟩ (t_X10_isGood l dC dI base cy  v _ hw) (cwV 0 hts (gV ml_X10_277 mi_X10_isGood mx_X10_isGood mn_X10 mo_X10_isGood) rfl rfl rfl (by decide +kernel) ⟨by decide, by decide⟩) hK hP hS th10 (by decide) rfl rfl hl.1 rfl (Nat.le_of_ble_eq_true rfl) dX10_arrive_1 ⟨Nat.zero_le _, Nat.zero_le _⟩ (fun x1 v1 H locs hw hP hS => ?_)
  refine lv_if_ne (tgt := 8) hx hb dX10_arrive_4 (by decide) (fun c4 => ?_) (fun c4 => ?_)
  · have hw := hw.1 c4
    refine lv_aload_n hx hb dX10_arrive_8 rfl (lv_at hl 0 rfl) ?_
    refine w_gR (C := RX10) (T := TX10) (N := 64) (ci := 10) hx hb hts in10 hown hK hP 60 th10.1 th10 rfl (by decide) (ch10_60 th10).1 (hts _ mf_X10_177) dX10_arrive_9 ?_
    refine lv_iconst (v := 1) hx hb dX10_arrive_12 (by decide) ?_
    refine w_ia (N := 20) hx hb hK hP (ch10_60 th10).2.1.1 (ch10_60 th10).2.1 (ch10_60 th10).2.2 (vp_in_nI (n := 1) (by decide) (by decide)) dX10_arrive_13 ?_
    refine lv_topi (fun x13 ex13 => ?_)
    have hw := hw x13 ex13
    refine kS_I (As := [.int x13]) (rest := []) ⟨hx, hb, hml, hown, hts⟩ (t_X10_codeOf l dC dI base cy x13 v1 _ hw) (cwS 1 hts (gS ml_X10_262 mt_X10_codeOf mn_X10 mo_X10_codeOf) rfl rfl rfl (by decide +kernel) ⟨by decide, by decide⟩) hK hP hS rfl hl.1 rfl (Nat.le_of_ble_eq_true rfl) dX10_arrive_14 ⟨Nat.zero_le _, Nat.zero_le _⟩ (fun x14 v2 H locs hw hP hS => ?_)
    refine lv_istore_n (lv' := [(2, .int x14), (0, .ref (base + 816)), (1, .int p1)]) hx hb dX10_arrive_17 rfl hl (by decide) rfl (fun ls hl => ?_)
    refine lv_iload_n hx hb dX10_arrive_18 rfl (lv_at hl 0 rfl) ?_
    refine lv_sipush (v := 224) hx hb dX10_arrive_19 (by decide) ?_
    refine lv_icmp_ne (tgt := 31) hx hb dX10_arrive_22 (by decide) (fun c22 => ?_) (fun c22 => ?_)
    · have hw := hw.1 c22
      refine lv_aload_n hx hb dX10_arrive_31 rfl (lv_at hl 1 rfl) ?_
      refine lv_iconst (v := 2) hx hb dX10_arrive_32 (by decide) ?_
      refine k_I (As := [.int 2]) (rest := []) ⟨hx, hb, hml, hown, hts⟩ (t_X10_two l dC dI base cy 2 v2 _ hw) (cwV 1 hts (gV ml_X10_268 mi_X10_two mx_X10_two mn_X10 mo_X10_two) rfl rfl rfl (by decide +kernel) ⟨by decide, by decide⟩) hK hP hS th10 (by decide) rfl rfl hl.1 rfl (Nat.le_of_ble_eq_true rfl) dX10_arrive_33 ⟨Nat.zero_le _, Nat.zero_le _⟩ (fun x33 v3 H locs hw hP hS => ?_)
      refine lv_aload_n hx hb dX10_arrive_36 rfl (lv_at hl 1 rfl) ?_
      refine w_gR (C := RX10) (T := TX10) (N := 64) (ci := 10) hx hb hts in10 hown hK hP 2 th10.1 th10 rfl (by decide) (ch10_2 th10).1 (hts _ mf_X10_13) dX10_arrive_37 ?_
      refine lv_iload_n hx hb dX10_arrive_40 rfl (lv_at hl 2 rfl) ?_
      obtain ⟨hi4, hw⟩ := hw
      refine w_ia (N := 2) hx hb hK hP (ch10_2 th10).2.1.1 (ch10_2 th10).2.1 (ch10_2 th10).2.2 hi4 dX10_arrive_41 ?_
      refine lv_topi (fun x41 ex41 => ?_)
      have hw := hw x41 ex41
      refine lv_icmp_ne (tgt := 69) hx hb dX10_arrive_42 (by decide) (fun c42 => ?_) (fun c42 => ?_)
      · have hw := hw.1 c42
        exact tb_X10_arrive_69 hx hb hml hown hts hK p1 _ hret  p1 x14 v3 _ _ _ hw (lv_sub hl [1, 2, 0] rfl) hP hS
      · have hw := hw.2 c42
        refine lv_aload_n hx hb dX10_arrive_45 rfl (lv_at hl 1 rfl) ?_
        refine w_gR (C := RX10) (T := TX10) (N := 64) (ci := 10) hx hb hts in10 hown hK hP 1 th10.1 th10 rfl (by decide) (ch10_1 th10).1 (hts _ mf_X10_7) dX10_arrive_46 ?_
        refine lv_iload_n hx hb dX10_arrive_49 rfl (lv_at hl 2 rfl) ?_
        obtain ⟨hi5, hw⟩ := hw
        refine w_ia (N := 2) hx hb hK hP (ch10_1 th10).2.1.1 (ch10_1 th10).2.1 (ch10_1 th10).2.2 hi5 dX10_arrive_50 ?_
        refine lv_topi (fun x50 ex50 => ?_)
        have hw := hw x50 ex50
        refine lv_iconst (v := 1) hx hb dX10_arrive_51 (by decide) ?_
        refine lv_icmp_lt (tgt := 69) hx hb dX10_arrive_52 (by decide) (fun c52 => ?_) (fun c52 => ?_)
        · have hw := hw.1 c52
          exact tb_X10_arrive_69 hx hb hml hown hts hK p1 _ hret  p1 x14 v3 _ _ _ hw (lv_sub hl [1, 2, 0] rfl) hP hS
        · have hw := hw.2 c52
          refine lv_aload_n hx hb dX10_arrive_55 rfl (lv_at hl 1 rfl) ?_
          refine w_gR (C := RX10) (T := TX10) (N := 64) (ci := 10) hx hb hts in10 hown hK hP 1 th10.1 th10 rfl (by decide) (ch10_1 th10).1 (hts _ mf_X10_7) dX10_arrive_56 ?_
          refine lv_iload_n hx hb dX10_arrive_59 rfl (lv_at hl 2 rfl) ?_
          obtain ⟨hi6, hw⟩ := hw
          refine w_ia (N := 2) hx hb hK hP (ch10_1 th10).2.1.1 (ch10_1 th10).2.1 (ch10_1 th10).2.2 hi6 dX10_arrive_60 ?_
          refine lv_topi (fun x60 ex60 => ?_)
          have hw := hw x60 ex60
          refine lv_iconst (v := 3) hx hb dX10_arrive_61 (by decide) ?_
          refine lv_icmp_gt (tgt := 69) hx hb dX10_arrive_62 (by decide) (fun c62 => ?_) (fun c62 => ?_)
          · have hw := hw.1 c62
            exact tb_X10_arrive_69 hx hb hml hown hts hK p1 _ hret  p1 x14 v3 _ _ _ hw (lv_sub hl [1, 2, 0] rfl) hP hS
          · have hw := hw.2 c62
            refine lv_iconst (v := 1) hx hb dX10_arrive_65 (by decide) ?_
            refine lv_goto (tgt := 70) hx hb dX10_arrive_66 (by decide) ?_
            exact tb_X10_arrive_70 hx hb hml hown hts hK p1 _ hret  p1 x14 1 v3 _ _ _ hw (lv_sub hl [1, 2, 0] rfl) hP hS
    · have hw := hw.2 c22
      refine lv_aload_n hx hb dX10_arrive_25 rfl (lv_at hl 1 rfl) ?_
      refine lv_iload_n hx hb dX10_arrive_26 rfl (lv_at hl 2 rfl) ?_
      refine k_V (As := [.int p1]) (rest := []) ⟨hx, hb, hml, hown, hts⟩ (t_X10_arriveCall l dC dI base cy p1 v2 _ hw) (cwV 1 hts (gV ml_X10_281 mi_X10_arriveCall mx_X10_arriveCall mn_X10 mo_X10_arriveCall) rfl rfl rfl (by decide +kernel) ⟨by decide, by decide⟩) hK hP hS th10 (by decide) rfl rfl hl.1 rfl (Nat.le_of_ble_eq_true rfl) dX10_arrive_27 ⟨Nat.zero_le _, Nat.zero_le _⟩ (fun v7 H locs hw hP hS => ?_)
      exact hret _ _ _ _ _ dX10_arrive_30 hw hP hS
  · have hw := hw.2 c4
    exact hret _ _ _ _ _ dX10_arrive_7 hw hP hS
def b_X10_hasFault_45 (p1 : Int32) (p2 : Int32) (Q : Int32 → VV → Prop) (K5 : Int32 → Int32 → Int32 → Int32 → VV → Prop) (a1 : Int32) (a2 : Int32) (a3 : Int32) (a4 : Int32) (s0 : Int32) (v : VV) : Prop :=
  ∀ x46 : Int32, x46 = a4 + 1 → K5 a1 a2 s0 x46 v
set_option maxHeartbeats 4000000 in
set_option maxRecDepth 100000 in
theorem tb_X10_hasFault_45 {p : Program} {l : Launch} {e : Env} {s : State} {m : MethodId} {args : Array Value} {below : List Frame} {meth : Method} {c : Code} {QQ : State → Prop} {dC : Nat → ClassId} {dI : Nat → Nat → Nat} {base : Nat} {cy : Nat → ClassId} (hx : p.tables.exec = Jvm.exec) (hb : c.code = cX10_hasFault) (hml : c.maxLocals = 5) (hown : s.vm.findClass RX10 = some m.cls) (hts : ∀ w ∈ TB, w.before args s = true) (hK : va_K (dC, dI) vwCl (tyL cy) s) (p1 : Int32) (p2 : Int32) (Q : Int32 → VV → Prop) (hret : ∀ (pc : Nat) (x : Int32) (v : VV) (H : Heap) (locs : List Loc) (ls : Array Slot), decode cX10_hasFault pc = .ok (.ireturn, 1) → (x = 0 ∨ x = 1) → Q x v → va_P (dC, dI) vwCl (Wd base cy rf v 874) H → va_S (fun q => base ≤ q) s.heap H locs → W p l e { frames := 0, cells := 0, slots := 0, locals := 0 } s m args below meth c H locs 0 0 QQ (F0 m pc ls [.int x])) (K5 : Int32 → Int32 → Int32 → Int32 → VV → Prop) (hK5 : ∀ (a1 : Int32) (a2 : Int32) (a3 : Int32) (a4 : Int32) (v : VV) (H : Heap) (locs : List Loc) (ls : Array Slot), K5 a1 a2 a3 a4 v → lv_has ls 5 [(0, .ref (base + 816)), (1, .int a1), (2, .int a2), (3, .int a3), (4, .int a4)] → va_P (dC, dI) vwCl (Wd base cy rf v 874) H → va_S (fun q => base ≤ q) s.heap H locs → W p l e { frames := 0, cells := 0, slots := 0, locals := 0 } s m args below meth c H locs 0 0 QQ (F0 m 5 ls [])) (a1 : Int32) (a2 : Int32) (a3 : Int32) (a4 : Int32) (s0 : Int32) (v : VV) (H : Heap) (locs : List Loc) (ls : Array Slot) (hw : b_X10_hasFault_45 p1 p2 Q K5 a1 a2 a3 a4 s0 v) : lv_has ls 5 [(0, .ref (base + 816)), (1, .int a1), (2, .int a2), (3, .int a3), (4, .int a4)] → va_P (dC, dI) vwCl (Wd base cy rf v 874) H → va_S (fun q => base ≤ q) s.heap H locs → W p l e { frames := 0, cells := 0, slots := 0, locals := 0 } s m args below meth c H locs 0 0 QQ (F0 m 45 ls [.int s0]) := by
  intro hl hP hS
  refine lv_istore_n (lv' := [(3, .int s0), (0, .ref (base + 816)), (1, .int a1), (2, .int a2), (4, .int a4)]) hx hb dX10_hasFault_45 rfl hl (by decide) rfl (fun ls hl => ?_)
  obtain ⟨x46, ex46⟩ : ∃ y : Int32, y = a4 + 1 := ⟨_, rfl⟩
  have hw := hw x46 ex46
  refine lv_iinc (v := x46) (lv' := [(4, .int x46), (3, .int s0), (0, .ref (base + 816)), (1, .int a1), (2, .int a2)]) hx hb dX10_hasFault_46 hl (k := 4) rfl (by rw [ex46]; first | rfl | (rw [show Int32.ofInt (-1) = (-1 : Int32) from by decide])) (by decide) rfl (fun ls hl => ?_)
  refine lv_goto (tgt := 5) hx hb dX10_hasFault_49 (by decide) ?_
  exact hK5 a1 a2 s0 x46 v _ _ _ hw (lv_sub hl [2, 3, 4, 1, 0] rfl) hP hS
def b_X10_hasFault_44 (p1 : Int32) (p2 : Int32) (Q : Int32 → VV → Prop) (K5 : Int32 → Int32 → Int32 → Int32 → VV → Prop) (a1 : Int32) (a2 : Int32) (a3 : Int32) (a4 : Int32) (v : VV) : Prop :=
  b_X10_hasFault_45 p1 p2 Q K5 a1 a2 a3 a4 0 v
set_option maxHeartbeats 4000000 in
set_option maxRecDepth 100000 in
theorem tb_X10_hasFault_44 {p : Program} {l : Launch} {e : Env} {s : State} {m : MethodId} {args : Array Value} {below : List Frame} {meth : Method} {c : Code} {QQ : State → Prop} {dC : Nat → ClassId} {dI : Nat → Nat → Nat} {base : Nat} {cy : Nat → ClassId} (hx : p.tables.exec = Jvm.exec) (hb : c.code = cX10_hasFault) (hml : c.maxLocals = 5) (hown : s.vm.findClass RX10 = some m.cls) (hts : ∀ w ∈ TB, w.before args s = true) (hK : va_K (dC, dI) vwCl (tyL cy) s) (p1 : Int32) (p2 : Int32) (Q : Int32 → VV → Prop) (hret : ∀ (pc : Nat) (x : Int32) (v : VV) (H : Heap) (locs : List Loc) (ls : Array Slot), decode cX10_hasFault pc = .ok (.ireturn, 1) → (x = 0 ∨ x = 1) → Q x v → va_P (dC, dI) vwCl (Wd base cy rf v 874) H → va_S (fun q => base ≤ q) s.heap H locs → W p l e { frames := 0, cells := 0, slots := 0, locals := 0 } s m args below meth c H locs 0 0 QQ (F0 m pc ls [.int x])) (K5 : Int32 → Int32 → Int32 → Int32 → VV → Prop) (hK5 : ∀ (a1 : Int32) (a2 : Int32) (a3 : Int32) (a4 : Int32) (v : VV) (H : Heap) (locs : List Loc) (ls : Array Slot), K5 a1 a2 a3 a4 v → lv_has ls 5 [(0, .ref (base + 816)), (1, .int a1), (2, .int a2), (3, .int a3), (4, .int a4)] → va_P (dC, dI) vwCl (Wd base cy rf v 874) H → va_S (fun q => base ≤ q) s.heap H locs → W p l e { frames := 0, cells := 0, slots := 0, locals := 0 } s m args below meth c H locs 0 0 QQ (F0 m 5 ls [])) (a1 : Int32) (a2 : Int32) (a3 : Int32) (a4 : Int32) (v : VV) (H : Heap) (locs : List Loc) (ls : Array Slot) (hw : b_X10_hasFault_44 p1 p2 Q K5 a1 a2 a3 a4 v) : lv_has ls 5 [(0, .ref (base + 816)), (1, .int a1), (2, .int a2), (3, .int a3), (4, .int a4)] → va_P (dC, dI) vwCl (Wd base cy rf v 874) H → va_S (fun q => base ≤ q) s.heap H locs → W p l e { frames := 0, cells := 0, slots := 0, locals := 0 } s m args below meth c H locs 0 0 QQ (F0 m 44 ls []) := by
  intro hl hP hS
  refine lv_iconst (v := 0) hx hb dX10_hasFault_44 (by decide) ?_
  exact tb_X10_hasFault_45 hx hb hml hown hts hK p1 p2 _ hret K5 hK5 a1 a2 a3 a4 0 v _ _ _ hw (lv_sub hl [0, 1, 2, 3, 4] rfl) hP hS
def b_X10_hasFault_40 (p1 : Int32) (p2 : Int32) (Q : Int32 → VV → Prop) (K5 : Int32 → Int32 → Int32 → Int32 → VV → Prop) (a1 : Int32) (a2 : Int32) (a3 : Int32) (a4 : Int32) (v : VV) : Prop :=
  b_X10_hasFault_45 p1 p2 Q K5 a1 a2 a3 a4 1 v
set_option maxHeartbeats 4000000 in
set_option maxRecDepth 100000 in
theorem tb_X10_hasFault_40 {p : Program} {l : Launch} {e : Env} {s : State} {m : MethodId} {args : Array Value} {below : List Frame} {meth : Method} {c : Code} {QQ : State → Prop} {dC : Nat → ClassId} {dI : Nat → Nat → Nat} {base : Nat} {cy : Nat → ClassId} (hx : p.tables.exec = Jvm.exec) (hb : c.code = cX10_hasFault) (hml : c.maxLocals = 5) (hown : s.vm.findClass RX10 = some m.cls) (hts : ∀ w ∈ TB, w.before args s = true) (hK : va_K (dC, dI) vwCl (tyL cy) s) (p1 : Int32) (p2 : Int32) (Q : Int32 → VV → Prop) (hret : ∀ (pc : Nat) (x : Int32) (v : VV) (H : Heap) (locs : List Loc) (ls : Array Slot), decode cX10_hasFault pc = .ok (.ireturn, 1) → (x = 0 ∨ x = 1) → Q x v → va_P (dC, dI) vwCl (Wd base cy rf v 874) H → va_S (fun q => base ≤ q) s.heap H locs → W p l e { frames := 0, cells := 0, slots := 0, locals := 0 } s m args below meth c H locs 0 0 QQ (F0 m pc ls [.int x])) (K5 : Int32 → Int32 → Int32 → Int32 → VV → Prop) (hK5 : ∀ (a1 : Int32) (a2 : Int32) (a3 : Int32) (a4 : Int32) (v : VV) (H : Heap) (locs : List Loc) (ls : Array Slot), K5 a1 a2 a3 a4 v → lv_has ls 5 [(0, .ref (base + 816)), (1, .int a1), (2, .int a2), (3, .int a3), (4, .int a4)] → va_P (dC, dI) vwCl (Wd base cy rf v 874) H → va_S (fun q => base ≤ q) s.heap H locs → W p l e { frames := 0, cells := 0, slots := 0, locals := 0 } s m args below meth c H locs 0 0 QQ (F0 m 5 ls [])) (a1 : Int32) (a2 : Int32) (a3 : Int32) (a4 : Int32) (v : VV) (H : Heap) (locs : List Loc) (ls : Array Slot) (hw : b_X10_hasFault_40 p1 p2 Q K5 a1 a2 a3 a4 v) : lv_has ls 5 [(0, .ref (base + 816)), (1, .int a1), (2, .int a2), (3, .int a3), (4, .int a4)] → va_P (dC, dI) vwCl (Wd base cy rf v 874) H → va_S (fun q => base ≤ q) s.heap H locs → W p l e { frames := 0, cells := 0, slots := 0, locals := 0 } s m args below meth c H locs 0 0 QQ (F0 m 40 ls []) := by
  intro hl hP hS
  refine lv_iconst (v := 1) hx hb dX10_hasFault_40 (by decide) ?_
  refine lv_goto (tgt := 45) hx hb dX10_hasFault_41 (by decide) ?_
  exact tb_X10_hasFault_45 hx hb hml hown hts hK p1 p2 _ hret K5 hK5 a1 a2 a3 a4 1 v _ _ _ hw (lv_sub hl [0, 1, 2, 3, 4] rfl) hP hS
def b_X10_hasFault_5 (p1 : Int32) (p2 : Int32) (Q : Int32 → VV → Prop) (fu : Nat) : Int32 → Int32 → Int32 → Int32 → VV → Prop :=
  Nat.rec (motive := fun _ => Int32 → Int32 → Int32 → Int32 → VV → Prop) (fun _ _ _ _ _ => False) (fun _ ih a1 a2 a3 a4 v => ∀ x8 : Int32, x8 = v 816 49 → (x8 ≤ a4 → (a3 = 0 ∨ a3 = 1) ∧ Q a3 v) ∧ (¬ x8 ≤ a4 → (¬ a3 = 0 → b_X10_hasFault_40 p1 p2 Q ih a1 a2 a3 a4 v) ∧ (a3 = 0 → vp_in a4 60 ∧ ∀ x24 : Int32, x24 = v 864 (Int32.toNatClampNeg a4) → (¬ x24 = a1 → b_X10_hasFault_44 p1 p2 Q ih a1 a2 a3 a4 v) ∧ (x24 = a1 → vp_in a4 60 ∧ ∀ x35 : Int32, x35 = v 865 (Int32.toNatClampNeg a4) → (¬ x35 = a2 → b_X10_hasFault_44 p1 p2 Q ih a1 a2 a3 a4 v) ∧ (x35 = a2 → b_X10_hasFault_40 p1 p2 Q ih a1 a2 a3 a4 v))))) fu
set_option maxHeartbeats 4000000 in
set_option maxRecDepth 100000 in
theorem tb_X10_hasFault_5 {p : Program} {l : Launch} {e : Env} {s : State} {m : MethodId} {args : Array Value} {below : List Frame} {meth : Method} {c : Code} {QQ : State → Prop} {dC : Nat → ClassId} {dI : Nat → Nat → Nat} {base : Nat} {cy : Nat → ClassId} (hx : p.tables.exec = Jvm.exec) (hb : c.code = cX10_hasFault) (hml : c.maxLocals = 5) (hown : s.vm.findClass RX10 = some m.cls) (hts : ∀ w ∈ TB, w.before args s = true) (hK : va_K (dC, dI) vwCl (tyL cy) s) (p1 : Int32) (p2 : Int32) (Q : Int32 → VV → Prop) (hret : ∀ (pc : Nat) (x : Int32) (v : VV) (H : Heap) (locs : List Loc) (ls : Array Slot), decode cX10_hasFault pc = .ok (.ireturn, 1) → (x = 0 ∨ x = 1) → Q x v → va_P (dC, dI) vwCl (Wd base cy rf v 874) H → va_S (fun q => base ≤ q) s.heap H locs → W p l e { frames := 0, cells := 0, slots := 0, locals := 0 } s m args below meth c H locs 0 0 QQ (F0 m pc ls [.int x])) : ∀ (fu : Nat) (a1 : Int32) (a2 : Int32) (a3 : Int32) (a4 : Int32) (v : VV) (H : Heap) (locs : List Loc) (ls : Array Slot), b_X10_hasFault_5 p1 p2 Q  fu a1 a2 a3 a4 v → lv_has ls 5 [(0, .ref (base + 816)), (1, .int a1), (2, .int a2), (3, .int a3), (4, .int a4)] → va_P (dC, dI) vwCl (Wd base cy rf v 874) H → va_S (fun q => base ≤ q) s.heap H locs → W p l e { frames := 0, cells := 0, slots := 0, locals := 0 } s m args below meth c H locs 0 0 QQ (F0 m 5 ls []) := by
  intro fu
  induction fu with
  | zero =>
    intro a1 a2 a3 a4 v H locs ls hw hl hP hS
    exact hw.elim
  | succ fu ih =>
    intro a1 a2 a3 a4 v H locs ls hw hl hP hS
    refine lv_iload hx hb dX10_hasFault_5 (lv_at hl 4 rfl) ?_
    refine lv_aload_n hx hb dX10_hasFault_7 rfl (lv_at hl 0 rfl) ?_
    refine w_gI (C := RX10) (T := TX10) (N := 64) (ci := 10) hx hb hts in10 hown hK hP 49 th10.1 th10 rfl (by decide) (hts _ mf_X10_302) dX10_hasFault_8 ?_
    refine lv_topi (fun x8 ex8 => ?_)
    have hw := hw x8 ex8
    refine lv_icmp_ge (tgt := 52) hx hb dX10_hasFault_11 (by decide) (fun c11 => ?_) (fun c11 => ?_)
    · have hw := hw.1 c11
      refine lv_iload_n hx hb dX10_hasFault_52 rfl (lv_at hl 3 rfl) ?_
      exact hret _ _ _ _ _ _ dX10_hasFault_53 hw.1 hw.2 hP hS
    · have hw := hw.2 c11
      refine lv_iload_n hx hb dX10_hasFault_14 rfl (lv_at hl 3 rfl) ?_
      refine lv_if_ne (tgt := 40) hx hb dX10_hasFault_15 (by decide) (fun c15 => ?_) (fun c15 => ?_)
      · have hw := hw.1 c15
        exact tb_X10_hasFault_40 hx hb hml hown hts hK p1 p2 _ hret _ ih a1 a2 a3 a4 v _ _ _ hw (lv_sub hl [0, 1, 2, 3, 4] rfl) hP hS
      · have hw := hw.2 c15
        refine lv_aload_n hx hb dX10_hasFault_18 rfl (lv_at hl 0 rfl) ?_
        refine w_gR (C := RX10) (T := TX10) (N := 64) (ci := 10) hx hb hts in10 hown hK hP 50 th10.1 th10 rfl (by decide) (ch10_50 th10).1 (hts _ mf_X10_152) dX10_hasFault_19 ?_
        refine lv_iload hx hb dX10_hasFault_22 (lv_at hl 4 rfl) ?_
        obtain ⟨hi1, hw⟩ := hw
        refine w_ia (N := 60) hx hb hK hP (ch10_50 th10).2.1.1 (ch10_50 th10).2.1 (ch10_50 th10).2.2 hi1 dX10_hasFault_24 ?_
        refine lv_topi (fun x24 ex24 => ?_)
        have hw := hw x24 ex24
        refine lv_iload_n hx hb dX10_hasFault_25 rfl (lv_at hl 1 rfl) ?_
        refine lv_icmp_ne (tgt := 44) hx hb dX10_hasFault_26 (by decide) (fun c26 => ?_) (fun c26 => ?_)
        · have hw := hw.1 c26
          exact tb_X10_hasFault_44 hx hb hml hown hts hK p1 p2 _ hret _ ih a1 a2 a3 a4 v _ _ _ hw (lv_sub hl [0, 1, 2, 3, 4] rfl) hP hS
        · have hw := hw.2 c26
          refine lv_aload_n hx hb dX10_hasFault_29 rfl (lv_at hl 0 rfl) ?_
          refine w_gR (C := RX10) (T := TX10) (N := 64) (ci := 10) hx hb hts in10 hown hK hP 51 th10.1 th10 rfl (by decide) (ch10_51 th10).1 (hts _ mf_X10_155) dX10_hasFault_30 ?_
          refine lv_iload hx hb dX10_hasFault_33 (lv_at hl 4 rfl) ?_
          obtain ⟨hi2, hw⟩ := hw
          refine w_ia (N := 60) hx hb hK hP (ch10_51 th10).2.1.1 (ch10_51 th10).2.1 (ch10_51 th10).2.2 hi2 dX10_hasFault_35 ?_
          refine lv_topi (fun x35 ex35 => ?_)
          have hw := hw x35 ex35
          refine lv_iload_n hx hb dX10_hasFault_36 rfl (lv_at hl 2 rfl) ?_
          refine lv_icmp_ne (tgt := 44) hx hb dX10_hasFault_37 (by decide) (fun c37 => ?_) (fun c37 => ?_)
          · have hw := hw.1 c37
            exact tb_X10_hasFault_44 hx hb hml hown hts hK p1 p2 _ hret _ ih a1 a2 a3 a4 v _ _ _ hw (lv_sub hl [0, 1, 2, 3, 4] rfl) hP hS
          · have hw := hw.2 c37
            exact tb_X10_hasFault_40 hx hb hml hown hts hK p1 p2 _ hret _ ih a1 a2 a3 a4 v _ _ _ hw (lv_sub hl [0, 1, 2, 3, 4] rfl) hP hS
def w_X10_hasFault (p1 : Int32) (p2 : Int32) (v : VV) (Q : Int32 → VV → Prop) : Prop :=
  ∃ fu : Nat, b_X10_hasFault_5 p1 p2 Q  fu p1 p2 0 0 v
set_option maxHeartbeats 4000000 in
set_option maxRecDepth 100000 in
/-- TransportFourModel.hasFault -/
theorem t_X10_hasFault (l : Launch) (dC : Nat → ClassId) (dI : Nat → Nat → Nat) (base : Nat) (cy : Nat → ClassId) (p1 : Int32) (p2 : Int32) (v : VV) (Q : Int32 → VV → Prop) (hw : w_X10_hasFault p1 p2 v Q) : CI l yX10_hasFault (.code yX10_hasFault cX10_hasFault 5 (some .boolean) :: TB) { frames := 0, cells := 0, slots := 0, locals := 0 } dC dI base cy [.ref (base + 816), .int p1, .int p2] v Q := by
  refine Met.ofW (cc := cX10_hasFault) (maxL := 5) (ret := (some .boolean)) (by decide) rfl ?_
  intro p e s m args below meth c s₁ B hml hv
  obtain ⟨rfl, hP, hK⟩ := hv
  have hx := B.exec
  have hb := B.bytes
  have hr := B.returns
  have hts0 := atoms_spec (ws := (.code yX10_hasFault cX10_hasFault 5 (some .boolean) :: TB)) B.pre
  have hts : ∀ w ∈ TB, w.before ([.ref (base + 816), .int p1, .int p2]).toArray s = true := fun w h => hts0 w (List.mem_cons_of_mem _ h)
  have hown : s.vm.findClass RX10 = some m.cls := findClass_of_methodNamed B.named
  have hlocks := B.notSynchronized
  have hS : va_S (fun q => base ≤ q) s.heap s.heap [] := va_S.rf
  have hl := lv_entry ([.ref (base + 816), .int p1, .int p2]) (n := 5) (Nat.le_of_ble_eq_true rfl)
  rw [lg_entry_eq]
  generalize (lg_sl ([.ref (base + 816), .int p1, .int p2]) ++ List.replicate (5 - (lg_sl ([.ref (base + 816), .int p1, .int p2])).length) Slot.unset).toArray = ls at hl ⊢
  have hl : lv_has ls 5 [(0, .ref (base + 816)), (1, .int p1), (2, .int p2)] := hl
  have hret : ∀ (pc : Nat) (x : Int32) (v : VV) (H : Heap) (locs : List Loc) (ls : Array Slot), decode cX10_hasFault pc = .ok (.ireturn, 1) → (x = 0 ∨ x = 1) → Q x v → va_P (dC, dI) vwCl (Wd base cy rf v 874) H → va_S (fun q => base ≤ q) s.heap H locs → W p l e { frames := 0, cells := 0, slots := 0, locals := 0 } s m ([.ref (base + 816), .int p1, .int p2]).toArray below meth c H locs 0 0 (MQ below (va_Qi Q (Hp dC dI base cy) (fun q => base ≤ q)) ([.ref (base + 816), .int p1, .int p2]).toArray s 0 0 (fun q => base ≤ q)) (F0 m pc ls [.int x]) := fun pc x v H locs ls hd hz hq hP hS => W.zret (v := x) hx hb hr (zb_n hz) (fun t ht hW => ⟨⟨x, v, rfl, hq, by rw [ht]; exact hP, va_K.moved hW.alike hK⟩, hS.F ht⟩) hS.2.2 hd
  refine lv_iconst (v := 0) hx hb dX10_hasFault_0 (by decide) ?_
  refine lv_istore_n (lv' := [(3, .int 0), (0, .ref (base + 816)), (1, .int p1), (2, .int p2)]) hx hb dX10_hasFault_1 rfl hl (by decide) rfl (fun ls hl => ?_)
  refine lv_iconst (v := 0) hx hb dX10_hasFault_2 (by decide) ?_
  refine lv_istore (lv' := [(4, .int 0), (3, .int 0), (0, .ref (base + 816)), (1, .int p1), (2, .int p2)]) hx hb dX10_hasFault_3 hl (by decide) rfl (fun ls hl => ?_)
  obtain ⟨fu, hw⟩ := hw
  exact tb_X10_hasFault_5 hx hb hml hown hts hK p1 p2 _ hret  fu p1 p2 0 0 v _ _ _ hw (lv_sub hl [2, 3, 4, 1, 0] rfl) hP hS
def b_X10_carry_136 (p1 : Int32) (Q : VV → Prop) (a1 : Int32) (a2 : Int32) (a3 : Int32) (a4 : Int32) (v : VV) : Prop :=
  vp_in a2 4096 ∧ ∀ x142 : Int32, x142 = v 870 (Int32.toNatClampNeg a2) → w_X10_arrive x142 v (fun (v2 : VV) => Q v2)
set_option maxHeartbeats 4000000 in
set_option maxRecDepth 100000 in
theorem tb_X10_carry_136 {p : Program} {l : Launch} {e : Env} {s : State} {m : MethodId} {args : Array Value} {below : List Frame} {meth : Method} {c : Code} {QQ : State → Prop} {dC : Nat → ClassId} {dI : Nat → Nat → Nat} {base : Nat} {cy : Nat → ClassId} (hx : p.tables.exec = Jvm.exec) (hb : c.code = cX10_carry) (hml : c.maxLocals = 5) (hown : s.vm.findClass RX10 = some m.cls) (hts : ∀ w ∈ TB, w.before args s = true) (hK : va_K (dC, dI) vwCl (tyL cy) s) (p1 : Int32) (Q : VV → Prop) (hret : ∀ (pc : Nat) (v : VV) (H : Heap) (locs : List Loc) (ls : Array Slot), decode cX10_carry pc = .ok (.return_, 1) → Q v → va_P (dC, dI) vwCl (Wd base cy rf v 874) H → va_S (fun q => base ≤ q) s.heap H locs → W p l e { frames := 6, cells := 0, slots := 0, locals := 138 } s m args below meth c H locs 0 0 QQ (F0 m pc ls [])) (a1 : Int32) (a2 : Int32) (a3 : Int32) (a4 : Int32) (v : VV) (H : Heap) (locs : List Loc) (ls : Array Slot) (hw : b_X10_carry_136 p1 Q  a1 a2 a3 a4 v) : lv_has ls 5 [(0, .ref (base + 816)), (1, .int a1), (2, .int a2), (3, .int a3), (4, .int a4)] → va_P (dC, dI) vwCl (Wd base cy rf v 874) H → va_S (fun q => base ≤ q) s.heap H locs → W p l e { frames := 6, cells := 0, slots := 0, locals := 138 } s m args below meth c H locs 0 0 QQ (F0 m 136 ls []) := by
  intro hl hP hS
  refine lv_aload_n hx hb dX10_carry_136 rfl (lv_at hl 0 rfl) ?_
  refine lv_aload_n hx hb dX10_carry_137 rfl (lv_at hl 0 rfl) ?_
  refine w_gR (C := RX10) (T := TX10) (N := 64) (ci := 10) hx hb hts in10 hown hK hP 58 th10.1 th10 rfl (by decide) (ch10_58 th10).1 (hts _ mf_X10_171) dX10_carry_138 ?_
  refine lv_iload_n hx hb dX10_carry_141 rfl (lv_at hl 2 rfl) ?_
  obtain ⟨hi1, hw⟩ := hw
  refine w_ia (N := 4096) hx hb hK hP (ch10_58 th10).2.1.1 (ch10_58 th10).2.1 (ch10_58 th10).2.2 hi1 dX10_carry_142 ?_
  refine lv_topi (fun x142 ex142 => ?_)
  have hw := hw x142 ex142
  refine k_V (As := [.int x142]) (rest := []) ⟨hx, hb, hml, hown, hts⟩ (t_X10_arrive l dC dI base cy x142 v _ hw) (cwV 1 hts (gV ml_X10_305 mi_X10_arrive mx_X10_arrive mn_X10 mo_X10_arrive) rfl rfl rfl (by decide +kernel) ⟨by decide, by decide⟩) hK hP hS th10 (by decide) rfl rfl hl.1 rfl (Nat.le_of_ble_eq_true rfl) dX10_carry_143 ⟨Nat.zero_le _, Nat.zero_le _⟩ (fun v2 H locs hw hP hS => ?_)
  exact hret _ _ _ _ _ dX10_carry_146 hw hP hS
def b_X10_carry_91 (p1 : Int32) (Q : VV → Prop) (K54 : Int32 → Int32 → Int32 → Int32 → VV → Prop) (a1 : Int32) (a2 : Int32) (a3 : Int32) (a4 : Int32) (s0 : Int32) (v : VV) : Prop :=
  ∀ x92 : Int32, x92 = a4 + 1 → K54 a1 a2 s0 x92 v
set_option maxHeartbeats 4000000 in
set_option maxRecDepth 100000 in
theorem tb_X10_carry_91 {p : Program} {l : Launch} {e : Env} {s : State} {m : MethodId} {args : Array Value} {below : List Frame} {meth : Method} {c : Code} {QQ : State → Prop} {dC : Nat → ClassId} {dI : Nat → Nat → Nat} {base : Nat} {cy : Nat → ClassId} (hx : p.tables.exec = Jvm.exec) (hb : c.code = cX10_carry) (hml : c.maxLocals = 5) (hown : s.vm.findClass RX10 = some m.cls) (hts : ∀ w ∈ TB, w.before args s = true) (hK : va_K (dC, dI) vwCl (tyL cy) s) (p1 : Int32) (Q : VV → Prop) (hret : ∀ (pc : Nat) (v : VV) (H : Heap) (locs : List Loc) (ls : Array Slot), decode cX10_carry pc = .ok (.return_, 1) → Q v → va_P (dC, dI) vwCl (Wd base cy rf v 874) H → va_S (fun q => base ≤ q) s.heap H locs → W p l e { frames := 6, cells := 0, slots := 0, locals := 138 } s m args below meth c H locs 0 0 QQ (F0 m pc ls [])) (K54 : Int32 → Int32 → Int32 → Int32 → VV → Prop) (hK54 : ∀ (a1 : Int32) (a2 : Int32) (a3 : Int32) (a4 : Int32) (v : VV) (H : Heap) (locs : List Loc) (ls : Array Slot), K54 a1 a2 a3 a4 v → lv_has ls 5 [(0, .ref (base + 816)), (1, .int a1), (2, .int a2), (3, .int a3), (4, .int a4)] → va_P (dC, dI) vwCl (Wd base cy rf v 874) H → va_S (fun q => base ≤ q) s.heap H locs → W p l e { frames := 6, cells := 0, slots := 0, locals := 138 } s m args below meth c H locs 0 0 QQ (F0 m 54 ls [])) (a1 : Int32) (a2 : Int32) (a3 : Int32) (a4 : Int32) (s0 : Int32) (v : VV) (H : Heap) (locs : List Loc) (ls : Array Slot) (hw : b_X10_carry_91 p1 Q K54 a1 a2 a3 a4 s0 v) : lv_has ls 5 [(0, .ref (base + 816)), (1, .int a1), (2, .int a2), (3, .int a3), (4, .int a4)] → va_P (dC, dI) vwCl (Wd base cy rf v 874) H → va_S (fun q => base ≤ q) s.heap H locs → W p l e { frames := 6, cells := 0, slots := 0, locals := 138 } s m args below meth c H locs 0 0 QQ (F0 m 91 ls [.int s0]) := by
  intro hl hP hS
  refine lv_istore_n (lv' := [(3, .int s0), (0, .ref (base + 816)), (1, .int a1), (2, .int a2), (4, .int a4)]) hx hb dX10_carry_91 rfl hl (by decide) rfl (fun ls hl => ?_)
  obtain ⟨x92, ex92⟩ : ∃ y : Int32, y = a4 + 1 := ⟨_, rfl⟩
  have hw := hw x92 ex92
  refine lv_iinc (v := x92) (lv' := [(4, .int x92), (3, .int s0), (0, .ref (base + 816)), (1, .int a1), (2, .int a2)]) hx hb dX10_carry_92 hl (k := 4) rfl (by rw [ex92]; first | rfl | (rw [show Int32.ofInt (-1) = (-1 : Int32) from by decide])) (by decide) rfl (fun ls hl => ?_)
  refine lv_goto (tgt := 54) hx hb dX10_carry_95 (by decide) ?_
  exact hK54 a1 a2 s0 x92 v _ _ _ hw (lv_sub hl [2, 3, 4, 1, 0] rfl) hP hS
def b_X10_carry_90 (p1 : Int32) (Q : VV → Prop) (K54 : Int32 → Int32 → Int32 → Int32 → VV → Prop) (a1 : Int32) (a2 : Int32) (a3 : Int32) (a4 : Int32) (v : VV) : Prop :=
  b_X10_carry_91 p1 Q K54 a1 a2 a3 a4 a3 v
set_option maxHeartbeats 4000000 in
set_option maxRecDepth 100000 in
theorem tb_X10_carry_90 {p : Program} {l : Launch} {e : Env} {s : State} {m : MethodId} {args : Array Value} {below : List Frame} {meth : Method} {c : Code} {QQ : State → Prop} {dC : Nat → ClassId} {dI : Nat → Nat → Nat} {base : Nat} {cy : Nat → ClassId} (hx : p.tables.exec = Jvm.exec) (hb : c.code = cX10_carry) (hml : c.maxLocals = 5) (hown : s.vm.findClass RX10 = some m.cls) (hts : ∀ w ∈ TB, w.before args s = true) (hK : va_K (dC, dI) vwCl (tyL cy) s) (p1 : Int32) (Q : VV → Prop) (hret : ∀ (pc : Nat) (v : VV) (H : Heap) (locs : List Loc) (ls : Array Slot), decode cX10_carry pc = .ok (.return_, 1) → Q v → va_P (dC, dI) vwCl (Wd base cy rf v 874) H → va_S (fun q => base ≤ q) s.heap H locs → W p l e { frames := 6, cells := 0, slots := 0, locals := 138 } s m args below meth c H locs 0 0 QQ (F0 m pc ls [])) (K54 : Int32 → Int32 → Int32 → Int32 → VV → Prop) (hK54 : ∀ (a1 : Int32) (a2 : Int32) (a3 : Int32) (a4 : Int32) (v : VV) (H : Heap) (locs : List Loc) (ls : Array Slot), K54 a1 a2 a3 a4 v → lv_has ls 5 [(0, .ref (base + 816)), (1, .int a1), (2, .int a2), (3, .int a3), (4, .int a4)] → va_P (dC, dI) vwCl (Wd base cy rf v 874) H → va_S (fun q => base ≤ q) s.heap H locs → W p l e { frames := 6, cells := 0, slots := 0, locals := 138 } s m args below meth c H locs 0 0 QQ (F0 m 54 ls [])) (a1 : Int32) (a2 : Int32) (a3 : Int32) (a4 : Int32) (v : VV) (H : Heap) (locs : List Loc) (ls : Array Slot) (hw : b_X10_carry_90 p1 Q K54 a1 a2 a3 a4 v) : lv_has ls 5 [(0, .ref (base + 816)), (1, .int a1), (2, .int a2), (3, .int a3), (4, .int a4)] → va_P (dC, dI) vwCl (Wd base cy rf v 874) H → va_S (fun q => base ≤ q) s.heap H locs → W p l e { frames := 6, cells := 0, slots := 0, locals := 138 } s m args below meth c H locs 0 0 QQ (F0 m 90 ls []) := by
  intro hl hP hS
  refine lv_iload_n hx hb dX10_carry_90 rfl (lv_at hl 3 rfl) ?_
  exact tb_X10_carry_91 hx hb hml hown hts hK p1 _ hret K54 hK54 a1 a2 a3 a4 a3 v _ _ _ hw (lv_sub hl [0, 1, 2, 3, 4] rfl) hP hS
def b_X10_carry_54 (p1 : Int32) (Q : VV → Prop) (fu : Nat) : Int32 → Int32 → Int32 → Int32 → VV → Prop :=
  Nat.rec (motive := fun _ => Int32 → Int32 → Int32 → Int32 → VV → Prop) (fun _ _ _ _ _ => False) (fun _ ih a1 a2 a3 a4 v => ∀ x57 : Int32, x57 = v 816 49 → (x57 ≤ a4 → (a3 < 0 → b_X10_carry_136 p1 Q  a1 a2 a3 a4 v) ∧ (¬ a3 < 0 → vp_in a3 60 ∧ ∀ x107 : Int32, x107 = v 866 (Int32.toNatClampNeg a3) → ∀ x109 : Int32, x109 = v 816 61 → (¬ x109 = 0) ∧ ∀ x112 : Int32, x112 = x107 - x107 / x109 * x109 → vp_in x112 20 ∧ ∀ x127 : Int32, x127 = v 872 (Int32.toNatClampNeg x112) → vp_in a3 60 ∧ ∀ x133 : Int32, x133 = v 867 (Int32.toNatClampNeg a3) → ∀ x134 : Int32, x134 = x127 ^^^ x133 → vp_in x112 20 ∧ ∀ v4 : VV, v4 = up2 v 872 (Int32.toNatClampNeg x112) x134 → b_X10_carry_136 p1 Q  a1 a2 a3 x112 v4)) ∧ (¬ x57 ≤ a4 → vp_in a4 60 ∧ ∀ x69 : Int32, x69 = v 864 (Int32.toNatClampNeg a4) → (¬ x69 = 4 → b_X10_carry_90 p1 Q ih a1 a2 a3 a4 v) ∧ (x69 = 4 → vp_in a4 60 ∧ ∀ x80 : Int32, x80 = v 865 (Int32.toNatClampNeg a4) → (¬ x80 = a1 → b_X10_carry_90 p1 Q ih a1 a2 a3 a4 v) ∧ (x80 = a1 → b_X10_carry_91 p1 Q ih a1 a2 a3 a4 a4 v)))) fu
set_option maxHeartbeats 4000000 in
set_option maxRecDepth 100000 in
theorem tb_X10_carry_54 {p : Program} {l : Launch} {e : Env} {s : State} {m : MethodId} {args : Array Value} {below : List Frame} {meth : Method} {c : Code} {QQ : State → Prop} {dC : Nat → ClassId} {dI : Nat → Nat → Nat} {base : Nat} {cy : Nat → ClassId} (hx : p.tables.exec = Jvm.exec) (hb : c.code = cX10_carry) (hml : c.maxLocals = 5) (hown : s.vm.findClass RX10 = some m.cls) (hts : ∀ w ∈ TB, w.before args s = true) (hK : va_K (dC, dI) vwCl (tyL cy) s) (p1 : Int32) (Q : VV → Prop) (hret : ∀ (pc : Nat) (v : VV) (H : Heap) (locs : List Loc) (ls : Array Slot), decode cX10_carry pc = .ok (.return_, 1) → Q v → va_P (dC, dI) vwCl (Wd base cy rf v 874) H → va_S (fun q => base ≤ q) s.heap H locs → W p l e { frames := 6, cells := 0, slots := 0, locals := 138 } s m args below meth c H locs 0 0 QQ (F0 m pc ls [])) : ∀ (fu : Nat) (a1 : Int32) (a2 : Int32) (a3 : Int32) (a4 : Int32) (v : VV) (H : Heap) (locs : List Loc) (ls : Array Slot), b_X10_carry_54 p1 Q  fu a1 a2 a3 a4 v → lv_has ls 5 [(0, .ref (base + 816)), (1, .int a1), (2, .int a2), (3, .int a3), (4, .int a4)] → va_P (dC, dI) vwCl (Wd base cy rf v 874) H → va_S (fun q => base ≤ q) s.heap H locs → W p l e { frames := 6, cells := 0, slots := 0, locals := 138 } s m args below meth c H locs 0 0 QQ (F0 m 54 ls []) := by
  intro fu
  induction fu with
  | zero =>
    intro a1 a2 a3 a4 v H locs ls hw hl hP hS
    exact hw.elim
  | succ fu ih =>
    intro a1 a2 a3 a4 v H locs ls hw hl hP hS
    refine lv_iload hx hb dX10_carry_54 (lv_at hl 4 rfl) ?_
    refine lv_aload_n hx hb dX10_carry_56 rfl (lv_at hl 0 rfl) ?_
    refine w_gI (C := RX10) (T := TX10) (N := 64) (ci := 10) hx hb hts in10 hown hK hP 49 th10.1 th10 rfl (by decide) (hts _ mf_X10_302) dX10_carry_57 ?_
    refine lv_topi (fun x57 ex57 => ?_)
    have hw := hw x57 ex57
    refine lv_icmp_ge (tgt := 98) hx hb dX10_carry_60 (by decide) (fun c60 => ?_) (fun c60 => ?_)
    · have hw := hw.1 c60
      refine lv_iload_n hx hb dX10_carry_98 rfl (lv_at hl 3 rfl) ?_
      refine lv_if_lt (tgt := 136) hx hb dX10_carry_99 (by decide) (fun c99 => ?_) (fun c99 => ?_)
      · have hw := hw.1 c99
        exact tb_X10_carry_136 hx hb hml hown hts hK p1 _ hret  a1 a2 a3 a4 v _ _ _ hw (lv_sub hl [0, 1, 2, 3, 4] rfl) hP hS
      · have hw := hw.2 c99
        refine lv_aload_n hx hb dX10_carry_102 rfl (lv_at hl 0 rfl) ?_
        refine w_gR (C := RX10) (T := TX10) (N := 64) (ci := 10) hx hb hts in10 hown hK hP 52 th10.1 th10 rfl (by decide) (ch10_52 th10).1 (hts _ mf_X10_158) dX10_carry_103 ?_
        refine lv_iload_n hx hb dX10_carry_106 rfl (lv_at hl 3 rfl) ?_
        obtain ⟨hi1, hw⟩ := hw
        refine w_ia (N := 60) hx hb hK hP (ch10_52 th10).2.1.1 (ch10_52 th10).2.1 (ch10_52 th10).2.2 hi1 dX10_carry_107 ?_
        refine lv_topi (fun x107 ex107 => ?_)
        have hw := hw x107 ex107
        refine lv_aload_n hx hb dX10_carry_108 rfl (lv_at hl 0 rfl) ?_
        refine w_gI (C := RX10) (T := TX10) (N := 64) (ci := 10) hx hb hts in10 hown hK hP 61 th10.1 th10 rfl (by decide) (hts _ mf_X10_259) dX10_carry_109 ?_
        refine lv_topi (fun x109 ex109 => ?_)
        have hw := hw x109 ex109
        obtain ⟨hne, hw⟩ := hw
        refine lv_irem hx hb dX10_carry_112 hne ?_
        refine lv_topi (fun x112 ex112 => ?_)
        have hw := hw x112 ex112
        refine lv_istore (lv' := [(4, .int x112), (0, .ref (base + 816)), (1, .int a1), (2, .int a2), (3, .int a3)]) hx hb dX10_carry_113 hl (by decide) rfl (fun ls hl => ?_)
        refine lv_aload_n hx hb dX10_carry_115 rfl (lv_at hl 1 rfl) ?_
        refine w_gR (C := RX10) (T := TX10) (N := 64) (ci := 10) hx hb hts in10 hown hK hP 60 th10.1 th10 rfl (by decide) (ch10_60 th10).1 (hts _ mf_X10_177) dX10_carry_116 ?_
        refine lv_iload hx hb dX10_carry_119 (lv_at hl 0 rfl) ?_
        refine lv_aload_n hx hb dX10_carry_121 rfl (lv_at hl 1 rfl) ?_
        refine w_gR (C := RX10) (T := TX10) (N := 64) (ci := 10) hx hb hts in10 hown hK hP 60 th10.1 th10 rfl (by decide) (ch10_60 th10).1 (hts _ mf_X10_177) dX10_carry_122 ?_
        refine lv_iload hx hb dX10_carry_125 (lv_at hl 0 rfl) ?_
        obtain ⟨hi2, hw⟩ := hw
        refine w_ia (N := 20) hx hb hK hP (ch10_60 th10).2.1.1 (ch10_60 th10).2.1 (ch10_60 th10).2.2 hi2 dX10_carry_127 ?_
        refine lv_topi (fun x127 ex127 => ?_)
        have hw := hw x127 ex127
        refine lv_aload_n hx hb dX10_carry_128 rfl (lv_at hl 1 rfl) ?_
        refine w_gR (C := RX10) (T := TX10) (N := 64) (ci := 10) hx hb hts in10 hown hK hP 53 th10.1 th10 rfl (by decide) (ch10_53 th10).1 (hts _ mf_X10_161) dX10_carry_129 ?_
        refine lv_iload_n hx hb dX10_carry_132 rfl (lv_at hl 4 rfl) ?_
        obtain ⟨hi3, hw⟩ := hw
        refine w_ia (N := 60) hx hb hK hP (ch10_53 th10).2.1.1 (ch10_53 th10).2.1 (ch10_53 th10).2.2 hi3 dX10_carry_133 ?_
        refine lv_topi (fun x133 ex133 => ?_)
        have hw := hw x133 ex133
        refine lv_ixor hx hb dX10_carry_134 ?_
        refine lv_topi (fun x134 ex134 => ?_)
        have hw := hw x134 ex134
        obtain ⟨hi5, hw⟩ := hw
        refine w_is (N := 20) hx hb hK hP hS (ch10_60 th10).2.1.1 (ch10_60 th10).2.1 (ch10_60 th10).2.2 hi5 dX10_carry_135 (fun v4 H locs hv4 hP hz hS => ?_)
        have hw := hw v4 hv4
        exact tb_X10_carry_136 hx hb hml hown hts hK p1 _ hret  a1 a2 a3 x112 v4 _ _ _ hw (lv_sub hl [1, 2, 3, 4, 0] rfl) hP hS
    · have hw := hw.2 c60
      refine lv_aload_n hx hb dX10_carry_63 rfl (lv_at hl 0 rfl) ?_
      refine w_gR (C := RX10) (T := TX10) (N := 64) (ci := 10) hx hb hts in10 hown hK hP 50 th10.1 th10 rfl (by decide) (ch10_50 th10).1 (hts _ mf_X10_152) dX10_carry_64 ?_
      refine lv_iload hx hb dX10_carry_67 (lv_at hl 4 rfl) ?_
      obtain ⟨hi6, hw⟩ := hw
      refine w_ia (N := 60) hx hb hK hP (ch10_50 th10).2.1.1 (ch10_50 th10).2.1 (ch10_50 th10).2.2 hi6 dX10_carry_69 ?_
      refine lv_topi (fun x69 ex69 => ?_)
      have hw := hw x69 ex69
      refine lv_iconst (v := 4) hx hb dX10_carry_70 (by decide) ?_
      refine lv_icmp_ne (tgt := 90) hx hb dX10_carry_71 (by decide) (fun c71 => ?_) (fun c71 => ?_)
      · have hw := hw.1 c71
        exact tb_X10_carry_90 hx hb hml hown hts hK p1 _ hret _ ih a1 a2 a3 a4 v _ _ _ hw (lv_sub hl [0, 1, 2, 3, 4] rfl) hP hS
      · have hw := hw.2 c71
        refine lv_aload_n hx hb dX10_carry_74 rfl (lv_at hl 0 rfl) ?_
        refine w_gR (C := RX10) (T := TX10) (N := 64) (ci := 10) hx hb hts in10 hown hK hP 51 th10.1 th10 rfl (by decide) (ch10_51 th10).1 (hts _ mf_X10_155) dX10_carry_75 ?_
        refine lv_iload hx hb dX10_carry_78 (lv_at hl 4 rfl) ?_
        obtain ⟨hi7, hw⟩ := hw
        refine w_ia (N := 60) hx hb hK hP (ch10_51 th10).2.1.1 (ch10_51 th10).2.1 (ch10_51 th10).2.2 hi7 dX10_carry_80 ?_
        refine lv_topi (fun x80 ex80 => ?_)
        have hw := hw x80 ex80
        refine lv_iload_n hx hb dX10_carry_81 rfl (lv_at hl 1 rfl) ?_
        refine lv_icmp_ne (tgt := 90) hx hb dX10_carry_82 (by decide) (fun c82 => ?_) (fun c82 => ?_)
        · have hw := hw.1 c82
          exact tb_X10_carry_90 hx hb hml hown hts hK p1 _ hret _ ih a1 a2 a3 a4 v _ _ _ hw (lv_sub hl [0, 1, 2, 3, 4] rfl) hP hS
        · have hw := hw.2 c82
          refine lv_iload hx hb dX10_carry_85 (lv_at hl 4 rfl) ?_
          refine lv_goto (tgt := 91) hx hb dX10_carry_87 (by decide) ?_
          exact tb_X10_carry_91 hx hb hml hown hts hK p1 _ hret _ ih a1 a2 a3 a4 a4 v _ _ _ hw (lv_sub hl [0, 1, 2, 3, 4] rfl) hP hS
def b_X10_carry_18 (p1 : Int32) (Q : VV → Prop) (fu : Nat) : Int32 → Int32 → Int32 → VV → Prop :=
  Nat.rec (motive := fun _ => Int32 → Int32 → Int32 → VV → Prop) (fun _ _ _ _ => False) (fun _ ih a1 a2 a3 v => ∀ x20 : Int32, x20 = v 816 61 → (x20 ≤ a3 → ∃ fu : Nat, b_X10_carry_54 p1 Q  fu a1 a2 ((-1)) 0 v) ∧ (¬ x20 ≤ a3 → ∀ x38 : Int32, x38 = 20 * a2 → ∀ x40 : Int32, x40 = x38 + a3 → vp_in x40 81920 ∧ ∀ x41 : Int32, x41 = v 868 (Int32.toNatClampNeg x40) → vp_in a3 20 ∧ ∀ v2 : VV, v2 = up2 v 872 (Int32.toNatClampNeg a3) x41 → ∀ x43 : Int32, x43 = a3 + 1 → ih a1 a2 x43 v2)) fu
set_option maxHeartbeats 4000000 in
set_option maxRecDepth 100000 in
theorem tb_X10_carry_18 {p : Program} {l : Launch} {e : Env} {s : State} {m : MethodId} {args : Array Value} {below : List Frame} {meth : Method} {c : Code} {QQ : State → Prop} {dC : Nat → ClassId} {dI : Nat → Nat → Nat} {base : Nat} {cy : Nat → ClassId} (hx : p.tables.exec = Jvm.exec) (hb : c.code = cX10_carry) (hml : c.maxLocals = 5) (hown : s.vm.findClass RX10 = some m.cls) (hts : ∀ w ∈ TB, w.before args s = true) (hK : va_K (dC, dI) vwCl (tyL cy) s) (p1 : Int32) (Q : VV → Prop) (hret : ∀ (pc : Nat) (v : VV) (H : Heap) (locs : List Loc) (ls : Array Slot), decode cX10_carry pc = .ok (.return_, 1) → Q v → va_P (dC, dI) vwCl (Wd base cy rf v 874) H → va_S (fun q => base ≤ q) s.heap H locs → W p l e { frames := 6, cells := 0, slots := 0, locals := 138 } s m args below meth c H locs 0 0 QQ (F0 m pc ls [])) : ∀ (fu : Nat) (a1 : Int32) (a2 : Int32) (a3 : Int32) (v : VV) (H : Heap) (locs : List Loc) (ls : Array Slot), b_X10_carry_18 p1 Q  fu a1 a2 a3 v → lv_has ls 5 [(0, .ref (base + 816)), (1, .int a1), (2, .int a2), (3, .int a3)] → va_P (dC, dI) vwCl (Wd base cy rf v 874) H → va_S (fun q => base ≤ q) s.heap H locs → W p l e { frames := 6, cells := 0, slots := 0, locals := 138 } s m args below meth c H locs 0 0 QQ (F0 m 18 ls []) := by
  intro fu
  induction fu with
  | zero =>
    intro a1 a2 a3 v H locs ls hw hl hP hS
    exact hw.elim
  | succ fu ih =>
    intro a1 a2 a3 v H locs ls hw hl hP hS
    refine lv_iload_n hx hb dX10_carry_18 rfl (lv_at hl 3 rfl) ?_
    refine lv_aload_n hx hb dX10_carry_19 rfl (lv_at hl 0 rfl) ?_
    refine w_gI (C := RX10) (T := TX10) (N := 64) (ci := 10) hx hb hts in10 hown hK hP 61 th10.1 th10 rfl (by decide) (hts _ mf_X10_259) dX10_carry_20 ?_
    refine lv_topi (fun x20 ex20 => ?_)
    have hw := hw x20 ex20
    refine lv_icmp_ge (tgt := 49) hx hb dX10_carry_23 (by decide) (fun c23 => ?_) (fun c23 => ?_)
    · have hw := hw.1 c23
      refine lv_iconst (v := -1) hx hb dX10_carry_49 (by decide) ?_
      refine lv_istore_n (lv' := [(3, .int ((-1))), (0, .ref (base + 816)), (1, .int a1), (2, .int a2)]) hx hb dX10_carry_50 rfl hl (by decide) rfl (fun ls hl => ?_)
      refine lv_iconst (v := 0) hx hb dX10_carry_51 (by decide) ?_
      refine lv_istore (lv' := [(4, .int 0), (3, .int ((-1))), (0, .ref (base + 816)), (1, .int a1), (2, .int a2)]) hx hb dX10_carry_52 hl (by decide) rfl (fun ls hl => ?_)
      obtain ⟨fu, hw⟩ := hw
      exact tb_X10_carry_54 hx hb hml hown hts hK p1 _ hret  fu a1 a2 ((-1)) 0 v _ _ _ hw (lv_sub hl [2, 3, 4, 1, 0] rfl) hP hS
    · have hw := hw.2 c23
      refine lv_aload_n hx hb dX10_carry_26 rfl (lv_at hl 0 rfl) ?_
      refine w_gR (C := RX10) (T := TX10) (N := 64) (ci := 10) hx hb hts in10 hown hK hP 60 th10.1 th10 rfl (by decide) (ch10_60 th10).1 (hts _ mf_X10_177) dX10_carry_27 ?_
      refine lv_iload_n hx hb dX10_carry_30 rfl (lv_at hl 3 rfl) ?_
      refine lv_aload_n hx hb dX10_carry_31 rfl (lv_at hl 0 rfl) ?_
      refine w_gR (C := RX10) (T := TX10) (N := 64) (ci := 10) hx hb hts in10 hown hK hP 56 th10.1 th10 rfl (by decide) (ch10_56 th10).1 (hts _ mf_X10_165) dX10_carry_32 ?_
      refine lv_bipush (v := 20) hx hb dX10_carry_35 (by decide) ?_
      refine lv_iload_n hx hb dX10_carry_37 rfl (lv_at hl 2 rfl) ?_
      refine lv_imul hx hb dX10_carry_38 ?_
      refine lv_topi (fun x38 ex38 => ?_)
      have hw := hw x38 ex38
      refine lv_iload_n hx hb dX10_carry_39 rfl (lv_at hl 3 rfl) ?_
      refine lv_iadd hx hb dX10_carry_40 ?_
      refine lv_topi (fun x40 ex40 => ?_)
      have hw := hw x40 ex40
      obtain ⟨hi1, hw⟩ := hw
      refine w_ia (N := 81920) hx hb hK hP (ch10_56 th10).2.1.1 (ch10_56 th10).2.1 (ch10_56 th10).2.2 hi1 dX10_carry_41 ?_
      refine lv_topi (fun x41 ex41 => ?_)
      have hw := hw x41 ex41
      obtain ⟨hi3, hw⟩ := hw
      refine w_is (N := 20) hx hb hK hP hS (ch10_60 th10).2.1.1 (ch10_60 th10).2.1 (ch10_60 th10).2.2 hi3 dX10_carry_42 (fun v2 H locs hv2 hP hz hS => ?_)
      have hw := hw v2 hv2
      obtain ⟨x43, ex43⟩ : ∃ y : Int32, y = a3 + 1 := ⟨_, rfl⟩
      have hw := hw x43 ex43
      refine lv_iinc (v := x43) (lv' := [(3, .int x43), (0, .ref (base + 816)), (1, .int a1), (2, .int a2)]) hx hb dX10_carry_43 hl (k := 3) rfl (by rw [ex43]; first | rfl | (rw [show Int32.ofInt (-1) = (-1 : Int32) from by decide])) (by decide) rfl (fun ls hl => ?_)
      refine lv_goto (tgt := 18) hx hb dX10_carry_46 (by decide) ?_
      exact ih a1 a2 x43 v2 _ _ _ hw (lv_sub hl [1, 2, 3, 0] rfl) hP hS
def w_X10_carry (p1 : Int32) (v : VV) (Q : VV → Prop) : Prop :=
  ∀ x4 : Int32, x4 = p1 - p1 / 4096 * 4096 → vp_in x4 4096 ∧ ∀ x12 : Int32, x12 = v 869 (Int32.toNatClampNeg x4) → ∀ v2 : VV, v2 = up2 v 816 61 x12 → ∃ fu : Nat, b_X10_carry_18 p1 Q  fu p1 x4 0 v2
set_option maxHeartbeats 4000000 in
set_option maxRecDepth 100000 in
/-- TransportFourModel.carry -/
theorem t_X10_carry (l : Launch) (dC : Nat → ClassId) (dI : Nat → Nat → Nat) (base : Nat) (cy : Nat → ClassId) (p1 : Int32) (v : VV) (Q : VV → Prop) (hw : w_X10_carry p1 v Q) : CV l yX10_carry (.code yX10_carry cX10_carry 5 none :: TB) { frames := 6, cells := 0, slots := 0, locals := 138 } dC dI base cy [.ref (base + 816), .int p1] v Q := by
  refine Met.ofW (cc := cX10_carry) (maxL := 5) (ret := none) (by decide) rfl ?_
  intro p e s m args below meth c s₁ B hml hv
  obtain ⟨rfl, hP, hK⟩ := hv
  have hx := B.exec
  have hb := B.bytes
  have hr := B.returns
  have hts0 := atoms_spec (ws := (.code yX10_carry cX10_carry 5 none :: TB)) B.pre
  have hts : ∀ w ∈ TB, w.before ([.ref (base + 816), .int p1]).toArray s = true := fun w h => hts0 w (List.mem_cons_of_mem _ h)
  have hown : s.vm.findClass RX10 = some m.cls := findClass_of_methodNamed B.named
  have hlocks := B.notSynchronized
  have hS : va_S (fun q => base ≤ q) s.heap s.heap [] := va_S.rf
  have hl := lv_entry ([.ref (base + 816), .int p1]) (n := 5) (Nat.le_of_ble_eq_true rfl)
  rw [lg_entry_eq]
  generalize (lg_sl ([.ref (base + 816), .int p1]) ++ List.replicate (5 - (lg_sl ([.ref (base + 816), .int p1])).length) Slot.unset).toArray = ls at hl ⊢
  have hl : lv_has ls 5 [(0, .ref (base + 816)), (1, .int p1)] := hl
  have hret : ∀ (pc : Nat) (v : VV) (H : Heap) (locs : List Loc) (ls : Array Slot), decode cX10_carry pc = .ok (.return_, 1) → Q v → va_P (dC, dI) vwCl (Wd base cy rf v 874) H → va_S (fun q => base ≤ q) s.heap H locs → W p l e { frames := 6, cells := 0, slots := 0, locals := 138 } s m ([.ref (base + 816), .int p1]).toArray below meth c H locs 0 0 (MQ below (va_Qv Q (Hp dC dI base cy) (fun q => base ≤ q)) ([.ref (base + 816), .int p1]).toArray s 0 0 (fun q => base ≤ q)) (F0 m pc ls []) := fun pc v H locs ls hd hq hP hS => W.vret hx hb hr (fun t ht hW => ⟨⟨v, rfl, hq, by rw [ht]; exact hP, va_K.moved hW.alike hK⟩, hS.F ht⟩) hS.2.2 hd
  refine lv_iload_n hx hb dX10_carry_0 rfl (lv_at hl 1 rfl) ?_
  refine lv_sipush (v := 4096) hx hb dX10_carry_1 (by decide) ?_
  refine lv_irem hx hb dX10_carry_4 (by decide) ?_
  refine lv_topi (fun x4 ex4 => ?_)
  have hw := hw x4 ex4
  refine lv_istore_n (lv' := [(2, .int x4), (0, .ref (base + 816)), (1, .int p1)]) hx hb dX10_carry_5 rfl hl (by decide) rfl (fun ls hl => ?_)
  refine lv_aload_n hx hb dX10_carry_6 rfl (lv_at hl 1 rfl) ?_
  refine lv_aload_n hx hb dX10_carry_7 rfl (lv_at hl 1 rfl) ?_
  refine w_gR (C := RX10) (T := TX10) (N := 64) (ci := 10) hx hb hts in10 hown hK hP 57 th10.1 th10 rfl (by decide) (ch10_57 th10).1 (hts _ mf_X10_168) dX10_carry_8 ?_
  refine lv_iload_n hx hb dX10_carry_11 rfl (lv_at hl 0 rfl) ?_
  obtain ⟨hi1, hw⟩ := hw
  refine w_ia (N := 4096) hx hb hK hP (ch10_57 th10).2.1.1 (ch10_57 th10).2.1 (ch10_57 th10).2.2 hi1 dX10_carry_12 ?_
  refine lv_topi (fun x12 ex12 => ?_)
  have hw := hw x12 ex12
  refine w_pI (C := RX10) (T := TX10) (N := 64) (ci := 10) hx hb hts in10 tyX10 tyX10_ok nmX10 hown hK hP hS 61 th10.1 th10 rfl (by decide) (hts _ mf_X10_259) rfl (ty := .int) (by decide +kernel) rfl rfl dX10_carry_13 (fun v2 H locs hv2 hP hz hS => ?_)
  have hw := hw v2 hv2
  refine lv_iconst (v := 0) hx hb dX10_carry_16 (by decide) ?_
  refine lv_istore_n (lv' := [(3, .int 0), (2, .int x4), (0, .ref (base + 816)), (1, .int p1)]) hx hb dX10_carry_17 rfl hl (by decide) rfl (fun ls hl => ?_)
  obtain ⟨fu, hw⟩ := hw
  exact tb_X10_carry_18 hx hb hml hown hts hK p1 _ hret  fu p1 x4 0 v2 _ _ _ hw (lv_sub hl [2, 3, 1, 0] rfl) hP hS
