def b_X9_deliver_68 (p1 : Int32) (Q : VV → Prop) (K16 : Int32 → Int32 → Int32 → VV → Prop) (a1 : Int32) (a2 : Int32) (a3 : Int32) (v : VV) : Prop :=
  ∀ x68 : Int32, x68 = a3 + 1 → K16 a1 a2 x68 v
set_option maxHeartbeats 4000000 in
set_option maxRecDepth 100000 in
theorem tb_X9_deliver_68 {p : Program} {l : Launch} {e : Env} {s : State} {m : MethodId} {args : Array Value} {below : List Frame} {meth : Method} {c : Code} {QQ : State → Prop} {dC : Nat → ClassId} {dI : Nat → Nat → Nat} {base : Nat} {cy : Nat → ClassId} (hx : p.tables.exec = Jvm.exec) (hb : c.code = cX9_deliver) (hml : c.maxLocals = 5) (hown : s.vm.findClass RX9 = some m.cls) (hts : ∀ w ∈ TB, w.before args s = true) (hK : va_K (dC, dI) vwCl (tyL cy) s) (p1 : Int32) (Q : VV → Prop) (hret : ∀ (pc : Nat) (v : VV) (H : Heap) (locs : List Loc) (ls : Array Slot), decode cX9_deliver pc = .ok (.return_, 1) → Q v → va_P (dC, dI) vwCl (Wd base cy rf v 874) H → va_S (fun q => base ≤ q) s.heap H locs → W p l e { frames := 6, cells := 0, slots := 0, locals := 138 } s m args below meth c H locs 0 0 QQ (F0 m pc ls [])) (K16 : Int32 → Int32 → Int32 → VV → Prop) (hK16 : ∀ (a1 : Int32) (a2 : Int32) (a3 : Int32) (v : VV) (H : Heap) (locs : List Loc) (ls : Array Slot), K16 a1 a2 a3 v → lv_has ls 5 [(0, .ref (base + 0)), (1, .int a1), (2, .int a2), (3, .int a3)] → va_P (dC, dI) vwCl (Wd base cy rf v 874) H → va_S (fun q => base ≤ q) s.heap H locs → W p l e { frames := 6, cells := 0, slots := 0, locals := 138 } s m args below meth c H locs 0 0 QQ (F0 m 16 ls [])) (a1 : Int32) (a2 : Int32) (a3 : Int32) (v : VV) (H : Heap) (locs : List Loc) (ls : Array Slot) (hw : b_X9_deliver_68 p1 Q K16 a1 a2 a3 v) : lv_has ls 5 [(0, .ref (base + 0)), (1, .int a1), (2, .int a2), (3, .int a3)] → va_P (dC, dI) vwCl (Wd base cy rf v 874) H → va_S (fun q => base ≤ q) s.heap H locs → W p l e { frames := 6, cells := 0, slots := 0, locals := 138 } s m args below meth c H locs 0 0 QQ (F0 m 68 ls []) := by
  intro hl hP hS
  obtain ⟨x68, ex68⟩ : ∃ y : Int32, y = a3 + 1 := ⟨_, rfl⟩
  have hw := hw x68 ex68
  refine lv_iinc (v := x68) (lv' := [(3, .int x68), (0, .ref (base + 0)), (1, .int a1), (2, .int a2)]) hx hb dX9_deliver_68 hl (k := 3) rfl (by rw [ex68]; first | rfl | (rw [show Int32.ofInt (-1) = (-1 : Int32) from by decide])) (by decide) rfl (fun ls hl => ?_)
  refine lv_goto (tgt := 16) hx hb dX9_deliver_71 (by decide) ?_
  exact hK16 a1 a2 x68 v _ _ _ hw (lv_sub hl [1, 2, 3, 0] rfl) hP hS
def b_X9_deliver_16 (p1 : Int32) (Q : VV → Prop) (fu : Nat) : Int32 → Int32 → Int32 → VV → Prop :=
  Nat.rec (motive := fun _ => Int32 → Int32 → Int32 → VV → Prop) (fun _ _ _ _ => False) (fun _ ih a1 a2 a3 v => (a2 ≤ a3 → Q v) ∧ (¬ a2 ≤ a3 → w_X2_arrivesNow a3 a1 v (fun (x27 : Int32) (v1 : VV) => (x27 = 0 → b_X9_deliver_68 p1 Q ih a1 a2 a3 v1) ∧ (¬ x27 = 0 → w_X2_unitAsItArrives a3 v1 (fun (t38 : Nat) (v2 : VV) => isO 5 t38 ∧ w_X5_isGood t38 v2 (fun (x45 : Int32) (v3 : VV) => (x45 = 0 → b_X9_deliver_68 p1 Q ih a1 a2 a3 v3) ∧ (¬ x45 = 0 → ∀ x58 : Int32, x58 = v3 t38 2 → ∀ x61 : Int32, x61 = 1 - x58 → vp_in x61 2 ∧ ∀ t62 : Nat, t62 = 523 + 146 * (Int32.toNatClampNeg x61) → w_X0_hear t62 t38 v3 (fun (v5 : VV) => b_X9_deliver_68 p1 Q ih a1 a2 a3 v5)))))))) fu
set_option maxHeartbeats 4000000 in
set_option maxRecDepth 100000 in
theorem tb_X9_deliver_16 {p : Program} {l : Launch} {e : Env} {s : State} {m : MethodId} {args : Array Value} {below : List Frame} {meth : Method} {c : Code} {QQ : State → Prop} {dC : Nat → ClassId} {dI : Nat → Nat → Nat} {base : Nat} {cy : Nat → ClassId} (hx : p.tables.exec = Jvm.exec) (hb : c.code = cX9_deliver) (hml : c.maxLocals = 5) (hown : s.vm.findClass RX9 = some m.cls) (hts : ∀ w ∈ TB, w.before args s = true) (hK : va_K (dC, dI) vwCl (tyL cy) s) (p1 : Int32) (Q : VV → Prop) (hret : ∀ (pc : Nat) (v : VV) (H : Heap) (locs : List Loc) (ls : Array Slot), decode cX9_deliver pc = .ok (.return_, 1) → Q v → va_P (dC, dI) vwCl (Wd base cy rf v 874) H → va_S (fun q => base ≤ q) s.heap H locs → W p l e { frames := 6, cells := 0, slots := 0, locals := 138 } s m args below meth c H locs 0 0 QQ (F0 m pc ls [])) : ∀ (fu : Nat) (a1 : Int32) (a2 : Int32) (a3 : Int32) (v : VV) (H : Heap) (locs : List Loc) (ls : Array Slot), b_X9_deliver_16 p1 Q  fu a1 a2 a3 v → lv_has ls 5 [(0, .ref (base + 0)), (1, .int a1), (2, .int a2), (3, .int a3)] → va_P (dC, dI) vwCl (Wd base cy rf v 874) H → va_S (fun q => base ≤ q) s.heap H locs → W p l e { frames := 6, cells := 0, slots := 0, locals := 138 } s m args below meth c H locs 0 0 QQ (F0 m 16 ls []) := by
  intro fu
  induction fu with
  | zero =>
    intro a1 a2 a3 v H locs ls hw hl hP hS
    exact hw.elim
  | succ fu ih =>
    intro a1 a2 a3 v H locs ls hw hl hP hS
    refine lv_iload_n hx hb dX9_deliver_16 rfl (lv_at hl 3 rfl) ?_
    refine lv_iload_n hx hb dX9_deliver_17 rfl (lv_at hl 2 rfl) ?_
    refine lv_icmp_ge (tgt := 74) hx hb dX9_deliver_18 (by decide) (fun c18 => ?_) (fun c18 => ?_)
    · have hw := hw.1 c18
      exact hret _ _ _ _ _ dX9_deliver_74 hw hP hS
    · have hw := hw.2 c18
      refine lv_aload_n hx hb dX9_deliver_21 rfl (lv_at hl 0 rfl) ?_
      refine w_gR (C := RX9) (T := TX9) (N := 4) (ci := 9) hx hb hts in9 hown hK hP 0 th9.1 th9 rfl (by decide) (ch9_0 th9).1 (hts _ mf_X9_10) dX9_deliver_22 ?_
      refine lv_iload_n hx hb dX9_deliver_25 rfl (lv_at hl 3 rfl) ?_
      refine lv_iload_n hx hb dX9_deliver_26 rfl (lv_at hl 1 rfl) ?_
      refine k_I (As := [.int a3, .int a1]) (rest := []) ⟨hx, hb, hml, hown, hts⟩ (t_X2_arrivesNow l dC dI base cy a3 a1 v _ hw) (cwV 2 hts (gV ml_X9_103 mi_X2_arrivesNow mx_X2_arrivesNow mn_X2 mo_X2_arrivesNow) rfl rfl rfl (by decide +kernel) ⟨by decide, by decide⟩) hK hP hS (ch9_0 th9).2 (by decide) rfl rfl hl.1 rfl (Nat.le_of_ble_eq_true rfl) dX9_deliver_27 ⟨Nat.zero_le _, Nat.zero_le _⟩ (fun x27 v1 H locs hw hP hS => ?_)
      refine lv_if_eq (tgt := 68) hx hb dX9_deliver_30 (by decide) (fun c30 => ?_) (fun c30 => ?_)
      · have hw := hw.1 c30
        exact tb_X9_deliver_68 hx hb hml hown hts hK p1 _ hret _ ih a1 a2 a3 v1 _ _ _ hw (lv_sub hl [0, 1, 2, 3] rfl) hP hS
      · have hw := hw.2 c30
        refine lv_aload_n hx hb dX9_deliver_33 rfl (lv_at hl 0 rfl) ?_
        refine w_gR (C := RX9) (T := TX9) (N := 4) (ci := 9) hx hb hts in9 hown hK hP 0 th9.1 th9 rfl (by decide) (ch9_0 th9).1 (hts _ mf_X9_10) dX9_deliver_34 ?_
        refine lv_iload_n hx hb dX9_deliver_37 rfl (lv_at hl 3 rfl) ?_
        refine k_Q (As := [.int a3]) (rest := []) ⟨hx, hb, hml, hown, hts⟩ (t_X2_unitAsItArrives l dC dI base cy a3 v1 _ hw) (cwV 1 hts (gV ml_X9_107 mi_X2_unitAsItArrives mx_X2_unitAsItArrives mn_X2 mo_X2_unitAsItArrives) rfl rfl rfl (by decide +kernel) ⟨by decide, by decide⟩) hK hP hS (ch9_0 th9).2 (by decide) rfl rfl hl.1 rfl (Nat.le_of_ble_eq_true rfl) dX9_deliver_38 ⟨Nat.zero_le _, Nat.zero_le _⟩ (fun t38 v2 H locs hw hP hS => ?_)
        obtain ⟨ht38, hw⟩ := hw
        refine lv_astore (lv' := [(4, .ref (base + t38)), (0, .ref (base + 0)), (1, .int a1), (2, .int a2), (3, .int a3)]) hx hb dX9_deliver_41 hl (by decide) rfl (fun ls hl => ?_)
        refine lv_aload hx hb dX9_deliver_43 (lv_at hl 0 rfl) ?_
        refine k_I (As := []) (rest := []) ⟨hx, hb, hml, hown, hts⟩ (t_X5_isGood l dC dI base cy t38 ht38 v2 _ hw) (cwV 0 hts (gV ml_X9_111 mi_X5_isGood mx_X5_isGood mn_X5 mo_X5_isGood) rfl rfl rfl (by decide +kernel) ⟨by decide, by decide⟩) hK hP hS ht38 (by decide) rfl rfl hl.1 rfl (Nat.le_of_ble_eq_true rfl) dX9_deliver_45 ⟨Nat.zero_le _, Nat.zero_le _⟩ (fun x45 v3 H locs hw hP hS => ?_)
        refine lv_if_eq (tgt := 68) hx hb dX9_deliver_48 (by decide) (fun c48 => ?_) (fun c48 => ?_)
        · have hw := hw.1 c48
          exact tb_X9_deliver_68 hx hb hml hown hts hK p1 _ hret _ ih a1 a2 a3 v3 _ _ _ hw (lv_sub hl [1, 2, 3, 4] rfl) hP hS
        · have hw := hw.2 c48
          refine lv_aload_n hx hb dX9_deliver_51 rfl (lv_at hl 1 rfl) ?_
          refine w_gR (C := RX9) (T := TX9) (N := 4) (ci := 9) hx hb hts in9 hown hK hP 1 th9.1 th9 rfl (by decide) (ch9_1 th9).1 (hts _ mf_X9_21) dX9_deliver_52 ?_
          refine lv_iconst (v := 1) hx hb dX9_deliver_55 (by decide) ?_
          refine lv_aload hx hb dX9_deliver_56 (lv_at hl 0 rfl) ?_
          refine w_gI (C := RX5) (T := TX5) (N := 7) (ci := 5) hx hb hts in5 hown hK hP 2 ht38.1 ht38 rfl (by decide) (hts _ mf_X9_117) dX9_deliver_58 ?_
          refine lv_topi (fun x58 ex58 => ?_)
          have hw := hw x58 ex58
          refine lv_isub hx hb dX9_deliver_61 ?_
          refine lv_topi (fun x61 ex61 => ?_)
          have hw := hw x61 ex61
          obtain ⟨hi4, hw⟩ := hw
          obtain ⟨t62, et62⟩ : ∃ y : Nat, y = 523 + 146 * (Int32.toNatClampNeg x61) := ⟨_, rfl⟩
          have hw := hw t62 et62
          have qt62 := arE (i := (Int32.toNatClampNeg x61)) (in_lt hi4)
          rw [← et62] at qt62
          refine w_aa (q0 := 3) hx hb hK hP (ch9_1 th9).2.1.1 (ch9_1 th9).2.1 (by decide) rfl (ch9_1 th9).2.2 hi4 qt62.1 dX9_deliver_62 ?_
          refine lv_aload hx hb dX9_deliver_63 (lv_at hl 0 rfl) ?_
          refine k_V (As := [.ref (base + t38)]) (rest := []) ⟨hx, hb, hml, hown, hts⟩ (t_X0_hear l dC dI base cy t62 qt62.2 t38 ht38 v3 _ hw) (cwV 1 hts (gV ml_X9_120 mi_X0_hear mx_X0_hear mn_X0 mo_X0_hear) rfl rfl rfl (by decide +kernel) ⟨by decide, by decide⟩) hK hP hS qt62.2 (by decide) rfl rfl hl.1 rfl (Nat.le_of_ble_eq_true rfl) dX9_deliver_65 ⟨Nat.zero_le _, Nat.zero_le _⟩ (fun v5 H locs hw hP hS => ?_)
          exact tb_X9_deliver_68 hx hb hml hown hts hK p1 _ hret _ ih a1 a2 a3 v5 _ _ _ hw (lv_sub hl [1, 2, 3, 4] rfl) hP hS
def w_X9_deliver (p1 : Int32) (v : VV) (Q : VV → Prop) : Prop :=
  ∀ x4 : Int32, x4 = v 1 8 → ∀ x12 : Int32, x12 = v 1 9 → ∃ fu : Nat, b_X9_deliver_16 p1 Q  fu p1 x4 x12 v
set_option maxHeartbeats 4000000 in
set_option maxRecDepth 100000 in
/-- TransportFour.deliver -/
theorem t_X9_deliver (l : Launch) (dC : Nat → ClassId) (dI : Nat → Nat → Nat) (base : Nat) (cy : Nat → ClassId) (p1 : Int32) (v : VV) (Q : VV → Prop) (hw : w_X9_deliver p1 v Q) : CV l yX9_deliver (.code yX9_deliver cX9_deliver 5 none :: TB) { frames := 6, cells := 0, slots := 0, locals := 138 } dC dI base cy [.ref (base + 0), .int p1] v Q := by
  refine Met.ofW (cc := cX9_deliver) (maxL := 5) (ret := none) (by decide) rfl ?_
  intro p e s m args below meth c s₁ B hml hv
  obtain ⟨rfl, hP, hK⟩ := hv
  have hx := B.exec
  have hb := B.bytes
  have hr := B.returns
  have hts0 := atoms_spec (ws := (.code yX9_deliver cX9_deliver 5 none :: TB)) B.pre
  have hts : ∀ w ∈ TB, w.before ([.ref (base + 0), .int p1]).toArray s = true := fun w h => hts0 w (List.mem_cons_of_mem _ h)
  have hown : s.vm.findClass RX9 = some m.cls := findClass_of_methodNamed B.named
  have hlocks := B.notSynchronized
  have hS : va_S (fun q => base ≤ q) s.heap s.heap [] := va_S.rf
  have hl := lv_entry ([.ref (base + 0), .int p1]) (n := 5) (Nat.le_of_ble_eq_true rfl)
  rw [lg_entry_eq]
  generalize (lg_sl ([.ref (base + 0), .int p1]) ++ List.replicate (5 - (lg_sl ([.ref (base + 0), .int p1])).length) Slot.unset).toArray = ls at hl ⊢
  have hl : lv_has ls 5 [(0, .ref (base + 0)), (1, .int p1)] := hl
  have hret : ∀ (pc : Nat) (v : VV) (H : Heap) (locs : List Loc) (ls : Array Slot), decode cX9_deliver pc = .ok (.return_, 1) → Q v → va_P (dC, dI) vwCl (Wd base cy rf v 874) H → va_S (fun q => base ≤ q) s.heap H locs → W p l e { frames := 6, cells := 0, slots := 0, locals := 138 } s m ([.ref (base + 0), .int p1]).toArray below meth c H locs 0 0 (MQ below (va_Qv Q (Hp dC dI base cy) (fun q => base ≤ q)) ([.ref (base + 0), .int p1]).toArray s 0 0 (fun q => base ≤ q)) (F0 m pc ls []) := fun pc v H locs ls hd hq hP hS => W.vret hx hb hr (fun t ht hW => ⟨⟨v, rfl, hq, by rw [ht]; exact hP, va_K.moved hW.alike hK⟩, hS.F ht⟩) hS.2.2 hd
  refine lv_aload_n hx hb dX9_deliver_0 rfl (lv_at hl 0 rfl) ?_
  refine w_gR (C := RX9) (T := TX9) (N := 4) (ci := 9) hx hb hts in9 hown hK hP 0 th9.1 th9 rfl (by decide) (ch9_0 th9).1 (hts _ mf_X9_10) dX9_deliver_1 ?_
  refine w_gI (C := RX2) (T := TX2) (N := 11) (ci := 2) hx hb hts in2 hown hK hP 8 (ch9_0 th9).2.1 (ch9_0 th9).2 rfl (by decide) (hts _ mf_X9_73) dX9_deliver_4 ?_
  refine lv_topi (fun x4 ex4 => ?_)
  have hw := hw x4 ex4
  refine lv_istore_n (lv' := [(2, .int x4), (0, .ref (base + 0)), (1, .int p1)]) hx hb dX9_deliver_7 rfl hl (by decide) rfl (fun ls hl => ?_)
  refine lv_aload_n hx hb dX9_deliver_8 rfl (lv_at hl 1 rfl) ?_
  refine w_gR (C := RX9) (T := TX9) (N := 4) (ci := 9) hx hb hts in9 hown hK hP 0 th9.1 th9 rfl (by decide) (ch9_0 th9).1 (hts _ mf_X9_10) dX9_deliver_9 ?_
  refine w_gI (C := RX2) (T := TX2) (N := 11) (ci := 2) hx hb hts in2 hown hK hP 9 (ch9_0 th9).2.1 (ch9_0 th9).2 rfl (by decide) (hts _ mf_X9_100) dX9_deliver_12 ?_
  refine lv_topi (fun x12 ex12 => ?_)
  have hw := hw x12 ex12
  refine lv_istore_n (lv' := [(3, .int x12), (2, .int x4), (0, .ref (base + 0)), (1, .int p1)]) hx hb dX9_deliver_15 rfl hl (by decide) rfl (fun ls hl => ?_)
  obtain ⟨fu, hw⟩ := hw
  exact tb_X9_deliver_16 hx hb hml hown hts hK p1 _ hret  fu p1 x4 x12 v _ _ _ hw (lv_sub hl [2, 3, 1, 0] rfl) hP hS
def b_X2_forgetArrived_0  (Q : VV → Prop) (fu : Nat) : VV → Prop :=
  Nat.rec (motive := fun _ => VV → Prop) (fun  _ => False) (fun _ ih  v => ∀ x1 : Int32, x1 = v 1 9 → ∀ x5 : Int32, x5 = v 1 8 → (x5 ≤ x1 → Q v) ∧ (¬ x5 ≤ x1 → ∀ x13 : Int32, x13 = v 1 9 → w_X2_unitOf x13 v (fun (t16 : Nat) (v1 : VV) => isO 5 t16 ∧ ∀ x19 : Int32, x19 = v1 t16 3 → ∀ x23 : Int32, x23 = v1 1 10 → (x23 < x19 → Q v1) ∧ (¬ x23 < x19 → ∀ x31 : Int32, x31 = v1 1 9 → w_X2_unitOf x31 v1 (fun (t34 : Nat) (v2 : VV) => isO 5 t34 ∧ ∀ x37 : Int32, x37 = v2 t34 4 → ∀ x41 : Int32, x41 = v2 1 10 → (x41 < x37 → Q v2) ∧ (¬ x41 < x37 → ∀ x49 : Int32, x49 = v2 1 9 → ∀ x53 : Int32, x53 = x49 + 1 → ∀ v3 : VV, v3 = up2 v2 1 9 x53 → ih  v3)))))) fu
set_option maxHeartbeats 4000000 in
set_option maxRecDepth 100000 in
theorem tb_X2_forgetArrived_0 {p : Program} {l : Launch} {e : Env} {s : State} {m : MethodId} {args : Array Value} {below : List Frame} {meth : Method} {c : Code} {QQ : State → Prop} {dC : Nat → ClassId} {dI : Nat → Nat → Nat} {base : Nat} {cy : Nat → ClassId} (hx : p.tables.exec = Jvm.exec) (hb : c.code = cX2_forgetArrived) (hml : c.maxLocals = 1) (hown : s.vm.findClass RX2 = some m.cls) (hts : ∀ w ∈ TB, w.before args s = true) (hK : va_K (dC, dI) vwCl (tyL cy) s)  (Q : VV → Prop) (hret : ∀ (pc : Nat) (v : VV) (H : Heap) (locs : List Loc) (ls : Array Slot), decode cX2_forgetArrived pc = .ok (.return_, 1) → Q v → va_P (dC, dI) vwCl (Wd base cy rf v 874) H → va_S (fun q => base ≤ q) s.heap H locs → W p l e { frames := 1, cells := 0, slots := 0, locals := 21 } s m args below meth c H locs 0 0 QQ (F0 m pc ls [])) : ∀ (fu : Nat)  (v : VV) (H : Heap) (locs : List Loc) (ls : Array Slot), b_X2_forgetArrived_0  Q  fu  v → lv_has ls 1 [(0, .ref (base + 1))] → va_P (dC, dI) vwCl (Wd base cy rf v 874) H → va_S (fun q => base ≤ q) s.heap H locs → W p l e { frames := 1, cells := 0, slots := 0, locals := 21 } s m args below meth c H locs 0 0 QQ (F0 m 0 ls []) := by
  intro fu
  induction fu with
  | zero =>
    intro  v H locs ls hw hl hP hS
    exact hw.elim
  | succ fu ih =>
    intro  v H locs ls hw hl hP hS
    refine lv_aload_n hx hb dX2_forgetArrived_0 rfl (lv_at hl 0 rfl) ?_
    refine w_gI (C := RX2) (T := TX2) (N := 11) (ci := 2) hx hb hts in2 hown hK hP 9 th2.1 th2 rfl (by decide) (hts _ mf_X2_79) dX2_forgetArrived_1 ?_
    refine lv_topi (fun x1 ex1 => ?_)
    have hw := hw x1 ex1
    refine lv_aload_n hx hb dX2_forgetArrived_4 rfl (lv_at hl 0 rfl) ?_
    refine w_gI (C := RX2) (T := TX2) (N := 11) (ci := 2) hx hb hts in2 hown hK hP 8 th2.1 th2 rfl (by decide) (hts _ mf_X2_42) dX2_forgetArrived_5 ?_
    refine lv_topi (fun x5 ex5 => ?_)
    have hw := hw x5 ex5
    refine lv_icmp_ge (tgt := 60) hx hb dX2_forgetArrived_8 (by decide) (fun c8 => ?_) (fun c8 => ?_)
    · have hw := hw.1 c8
      exact hret _ _ _ _ _ dX2_forgetArrived_60 hw hP hS
    · have hw := hw.2 c8
      refine lv_aload_n hx hb dX2_forgetArrived_11 rfl (lv_at hl 0 rfl) ?_
      refine lv_aload_n hx hb dX2_forgetArrived_12 rfl (lv_at hl 0 rfl) ?_
      refine w_gI (C := RX2) (T := TX2) (N := 11) (ci := 2) hx hb hts in2 hown hK hP 9 th2.1 th2 rfl (by decide) (hts _ mf_X2_79) dX2_forgetArrived_13 ?_
      refine lv_topi (fun x13 ex13 => ?_)
      have hw := hw x13 ex13
      refine k_Q (As := [.int x13]) (rest := []) ⟨hx, hb, hml, hown, hts⟩ (t_X2_unitOf l dC dI base cy x13 v _ hw) (cwV 1 hts (gV ml_X2_45 mi_X2_unitOf mx_X2_unitOf mn_X2 mo_X2_unitOf) rfl rfl rfl (by decide +kernel) ⟨by decide, by decide⟩) hK hP hS th2 (by decide) rfl rfl hl.1 rfl (Nat.le_of_ble_eq_true rfl) dX2_forgetArrived_16 ⟨Nat.zero_le _, Nat.zero_le _⟩ (fun t16 v1 H locs hw hP hS => ?_)
      obtain ⟨ht16, hw⟩ := hw
      refine w_gI (C := RX5) (T := TX5) (N := 7) (ci := 5) hx hb hts in5 hown hK hP 3 ht16.1 ht16 rfl (by decide) (hts _ mf_X2_66) dX2_forgetArrived_19 ?_
      refine lv_topi (fun x19 ex19 => ?_)
      have hw := hw x19 ex19
      refine lv_aload_n hx hb dX2_forgetArrived_22 rfl (lv_at hl 0 rfl) ?_
      refine w_gI (C := RX2) (T := TX2) (N := 11) (ci := 2) hx hb hts in2 hown hK hP 10 th2.1 th2 rfl (by decide) (hts _ mf_X2_63) dX2_forgetArrived_23 ?_
      refine lv_topi (fun x23 ex23 => ?_)
      have hw := hw x23 ex23
      refine lv_icmp_gt (tgt := 60) hx hb dX2_forgetArrived_26 (by decide) (fun c26 => ?_) (fun c26 => ?_)
      · have hw := hw.1 c26
        exact hret _ _ _ _ _ dX2_forgetArrived_60 hw hP hS
      · have hw := hw.2 c26
        refine lv_aload_n hx hb dX2_forgetArrived_29 rfl (lv_at hl 0 rfl) ?_
        refine lv_aload_n hx hb dX2_forgetArrived_30 rfl (lv_at hl 0 rfl) ?_
        refine w_gI (C := RX2) (T := TX2) (N := 11) (ci := 2) hx hb hts in2 hown hK hP 9 th2.1 th2 rfl (by decide) (hts _ mf_X2_79) dX2_forgetArrived_31 ?_
        refine lv_topi (fun x31 ex31 => ?_)
        have hw := hw x31 ex31
        refine k_Q (As := [.int x31]) (rest := []) ⟨hx, hb, hml, hown, hts⟩ (t_X2_unitOf l dC dI base cy x31 v1 _ hw) (cwV 1 hts (gV ml_X2_45 mi_X2_unitOf mx_X2_unitOf mn_X2 mo_X2_unitOf) rfl rfl rfl (by decide +kernel) ⟨by decide, by decide⟩) hK hP hS th2 (by decide) rfl rfl hl.1 rfl (Nat.le_of_ble_eq_true rfl) dX2_forgetArrived_34 ⟨Nat.zero_le _, Nat.zero_le _⟩ (fun t34 v2 H locs hw hP hS => ?_)
        obtain ⟨ht34, hw⟩ := hw
        refine w_gI (C := RX5) (T := TX5) (N := 7) (ci := 5) hx hb hts in5 hown hK hP 4 ht34.1 ht34 rfl (by decide) (hts _ mf_X2_69) dX2_forgetArrived_37 ?_
        refine lv_topi (fun x37 ex37 => ?_)
        have hw := hw x37 ex37
        refine lv_aload_n hx hb dX2_forgetArrived_40 rfl (lv_at hl 0 rfl) ?_
        refine w_gI (C := RX2) (T := TX2) (N := 11) (ci := 2) hx hb hts in2 hown hK hP 10 th2.1 th2 rfl (by decide) (hts _ mf_X2_63) dX2_forgetArrived_41 ?_
        refine lv_topi (fun x41 ex41 => ?_)
        have hw := hw x41 ex41
        refine lv_icmp_gt (tgt := 60) hx hb dX2_forgetArrived_44 (by decide) (fun c44 => ?_) (fun c44 => ?_)
        · have hw := hw.1 c44
          exact hret _ _ _ _ _ dX2_forgetArrived_60 hw hP hS
        · have hw := hw.2 c44
          refine lv_aload_n hx hb dX2_forgetArrived_47 rfl (lv_at hl 0 rfl) ?_
          refine lv_dup hx hb dX2_forgetArrived_48 rfl ?_
          refine w_gI (C := RX2) (T := TX2) (N := 11) (ci := 2) hx hb hts in2 hown hK hP 9 th2.1 th2 rfl (by decide) (hts _ mf_X2_79) dX2_forgetArrived_49 ?_
          refine lv_topi (fun x49 ex49 => ?_)
          have hw := hw x49 ex49
          refine lv_iconst (v := 1) hx hb dX2_forgetArrived_52 (by decide) ?_
          refine lv_iadd hx hb dX2_forgetArrived_53 ?_
          refine lv_topi (fun x53 ex53 => ?_)
          have hw := hw x53 ex53
          refine w_pI (C := RX2) (T := TX2) (N := 11) (ci := 2) hx hb hts in2 tyX2 tyX2_ok nmX2 hown hK hP hS 9 th2.1 th2 rfl (by decide) (hts _ mf_X2_79) rfl (ty := .int) (by decide +kernel) rfl rfl dX2_forgetArrived_54 (fun v3 H locs hv3 hP hz hS => ?_)
          have hw := hw v3 hv3
          refine lv_goto (tgt := 0) hx hb dX2_forgetArrived_57 (by decide) ?_
          exact ih  v3 _ _ _ hw (lv_sub hl [0] rfl) hP hS
def w_X2_forgetArrived  (v : VV) (Q : VV → Prop) : Prop :=
  ∃ fu : Nat, b_X2_forgetArrived_0  Q  fu  v
set_option maxHeartbeats 4000000 in
set_option maxRecDepth 100000 in
/-- TransportFour$Net.forgetArrived -/
theorem t_X2_forgetArrived (l : Launch) (dC : Nat → ClassId) (dI : Nat → Nat → Nat) (base : Nat) (cy : Nat → ClassId)  (v : VV) (Q : VV → Prop) (hw : w_X2_forgetArrived  v Q) : CV l yX2_forgetArrived (.code yX2_forgetArrived cX2_forgetArrived 1 none :: TB) { frames := 1, cells := 0, slots := 0, locals := 21 } dC dI base cy [.ref (base + 1)] v Q := by
  refine Met.ofW (cc := cX2_forgetArrived) (maxL := 1) (ret := none) (by decide) rfl ?_
  intro p e s m args below meth c s₁ B hml hv
  obtain ⟨rfl, hP, hK⟩ := hv
  have hx := B.exec
  have hb := B.bytes
  have hr := B.returns
  have hts0 := atoms_spec (ws := (.code yX2_forgetArrived cX2_forgetArrived 1 none :: TB)) B.pre
  have hts : ∀ w ∈ TB, w.before ([.ref (base + 1)]).toArray s = true := fun w h => hts0 w (List.mem_cons_of_mem _ h)
  have hown : s.vm.findClass RX2 = some m.cls := findClass_of_methodNamed B.named
  have hlocks := B.notSynchronized
  have hS : va_S (fun q => base ≤ q) s.heap s.heap [] := va_S.rf
  have hl := lv_entry ([.ref (base + 1)]) (n := 1) (Nat.le_of_ble_eq_true rfl)
  rw [lg_entry_eq]
  generalize (lg_sl ([.ref (base + 1)]) ++ List.replicate (1 - (lg_sl ([.ref (base + 1)])).length) Slot.unset).toArray = ls at hl ⊢
  have hl : lv_has ls 1 [(0, .ref (base + 1))] := hl
  have hret : ∀ (pc : Nat) (v : VV) (H : Heap) (locs : List Loc) (ls : Array Slot), decode cX2_forgetArrived pc = .ok (.return_, 1) → Q v → va_P (dC, dI) vwCl (Wd base cy rf v 874) H → va_S (fun q => base ≤ q) s.heap H locs → W p l e { frames := 1, cells := 0, slots := 0, locals := 21 } s m ([.ref (base + 1)]).toArray below meth c H locs 0 0 (MQ below (va_Qv Q (Hp dC dI base cy) (fun q => base ≤ q)) ([.ref (base + 1)]).toArray s 0 0 (fun q => base ≤ q)) (F0 m pc ls []) := fun pc v H locs ls hd hq hP hS => W.vret hx hb hr (fun t ht hW => ⟨⟨v, rfl, hq, by rw [ht]; exact hP, va_K.moved hW.alike hK⟩, hS.F ht⟩) hS.2.2 hd
  obtain ⟨fu, hw⟩ := hw
  exact tb_X2_forgetArrived_0 hx hb hml hown hts hK  _ hret  fu  v _ _ _ hw (lv_sub hl [0] rfl) hP hS
def b_X8_isOver_22 (o : Nat) (p1 : Int32) (Q : Int32 → VV → Prop) (a1 : Int32) (v : VV) : Prop :=
  Q 0 v
set_option maxHeartbeats 4000000 in
set_option maxRecDepth 100000 in
theorem tb_X8_isOver_22 {p : Program} {l : Launch} {e : Env} {s : State} {m : MethodId} {args : Array Value} {below : List Frame} {meth : Method} {c : Code} {QQ : State → Prop} {dC : Nat → ClassId} {dI : Nat → Nat → Nat} {base : Nat} {cy : Nat → ClassId} (hx : p.tables.exec = Jvm.exec) (hb : c.code = cX8_isOver) (hml : c.maxLocals = 2) (hown : s.vm.findClass RX8 = some m.cls) (hts : ∀ w ∈ TB, w.before args s = true) (hK : va_K (dC, dI) vwCl (tyL cy) s) (o : Nat) (ho : isO 8 o) (p1 : Int32) (Q : Int32 → VV → Prop) (hret : ∀ (pc : Nat) (x : Int32) (v : VV) (H : Heap) (locs : List Loc) (ls : Array Slot), decode cX8_isOver pc = .ok (.ireturn, 1) → (x = 0 ∨ x = 1) → Q x v → va_P (dC, dI) vwCl (Wd base cy rf v 874) H → va_S (fun q => base ≤ q) s.heap H locs → W p l e { frames := 0, cells := 0, slots := 0, locals := 0 } s m args below meth c H locs 0 0 QQ (F0 m pc ls [.int x])) (a1 : Int32) (v : VV) (H : Heap) (locs : List Loc) (ls : Array Slot) (hw : b_X8_isOver_22 o p1 Q  a1 v) : lv_has ls 2 [(0, .ref (base + o)), (1, .int a1)] → va_P (dC, dI) vwCl (Wd base cy rf v 874) H → va_S (fun q => base ≤ q) s.heap H locs → W p l e { frames := 0, cells := 0, slots := 0, locals := 0 } s m args below meth c H locs 0 0 QQ (F0 m 22 ls []) := by
  intro hl hP hS
  refine lv_iconst (v := 0) hx hb dX8_isOver_22 (by decide) ?_
  exact hret _ _ _ _ _ _ dX8_isOver_23 (by decide) hw hP hS
def w_X8_isOver (o : Nat) (p1 : Int32) (v : VV) (Q : Int32 → VV → Prop) : Prop :=
  ∀ x1 : Int32, x1 = v o 0 → (x1 ≤ 0 → b_X8_isOver_22 o p1 Q  p1 v) ∧ (¬ x1 ≤ 0 → ∀ x9 : Int32, x9 = v o 1 → ∀ x12 : Int32, x12 = p1 - x9 → (x12 < 8 → b_X8_isOver_22 o p1 Q  p1 v) ∧ (¬ x12 < 8 → Q 1 v))
set_option maxHeartbeats 4000000 in
set_option maxRecDepth 100000 in
/-- TransportFour$Wait.isOver -/
theorem t_X8_isOver (l : Launch) (dC : Nat → ClassId) (dI : Nat → Nat → Nat) (base : Nat) (cy : Nat → ClassId) (o : Nat) (ho : isO 8 o) (p1 : Int32) (v : VV) (Q : Int32 → VV → Prop) (hw : w_X8_isOver o p1 v Q) : CI l yX8_isOver (.code yX8_isOver cX8_isOver 2 (some .boolean) :: TB) { frames := 0, cells := 0, slots := 0, locals := 0 } dC dI base cy [.ref (base + o), .int p1] v Q := by
  refine Met.ofW (cc := cX8_isOver) (maxL := 2) (ret := (some .boolean)) (by decide) rfl ?_
  intro p e s m args below meth c s₁ B hml hv
  obtain ⟨rfl, hP, hK⟩ := hv
  have hx := B.exec
  have hb := B.bytes
  have hr := B.returns
  have hts0 := atoms_spec (ws := (.code yX8_isOver cX8_isOver 2 (some .boolean) :: TB)) B.pre
  have hts : ∀ w ∈ TB, w.before ([.ref (base + o), .int p1]).toArray s = true := fun w h => hts0 w (List.mem_cons_of_mem _ h)
  have hown : s.vm.findClass RX8 = some m.cls := findClass_of_methodNamed B.named
  have hlocks := B.notSynchronized
  have hS : va_S (fun q => base ≤ q) s.heap s.heap [] := va_S.rf
  have hl := lv_entry ([.ref (base + o), .int p1]) (n := 2) (Nat.le_of_ble_eq_true rfl)
  rw [lg_entry_eq]
  generalize (lg_sl ([.ref (base + o), .int p1]) ++ List.replicate (2 - (lg_sl ([.ref (base + o), .int p1])).length) Slot.unset).toArray = ls at hl ⊢
  have hl : lv_has ls 2 [(0, .ref (base + o)), (1, .int p1)] := hl
  have hret : ∀ (pc : Nat) (x : Int32) (v : VV) (H : Heap) (locs : List Loc) (ls : Array Slot), decode cX8_isOver pc = .ok (.ireturn, 1) → (x = 0 ∨ x = 1) → Q x v → va_P (dC, dI) vwCl (Wd base cy rf v 874) H → va_S (fun q => base ≤ q) s.heap H locs → W p l e { frames := 0, cells := 0, slots := 0, locals := 0 } s m ([.ref (base + o), .int p1]).toArray below meth c H locs 0 0 (MQ below (va_Qi Q (Hp dC dI base cy) (fun q => base ≤ q)) ([.ref (base + o), .int p1]).toArray s 0 0 (fun q => base ≤ q)) (F0 m pc ls [.int x]) := fun pc x v H locs ls hd hz hq hP hS => W.zret (v := x) hx hb hr (zb_n hz) (fun t ht hW => ⟨⟨x, v, rfl, hq, by rw [ht]; exact hP, va_K.moved hW.alike hK⟩, hS.F ht⟩) hS.2.2 hd
  refine lv_aload_n hx hb dX8_isOver_0 rfl (lv_at hl 0 rfl) ?_
  refine w_gI (C := RX8) (T := TX8) (N := 2) (ci := 8) hx hb hts in8 hown hK hP 0 ho.1 ho rfl (by decide) (hts _ mf_X8_9) dX8_isOver_1 ?_
  refine lv_topi (fun x1 ex1 => ?_)
  have hw := hw x1 ex1
  refine lv_if_le (tgt := 22) hx hb dX8_isOver_4 (by decide) (fun c4 => ?_) (fun c4 => ?_)
  · have hw := hw.1 c4
    exact tb_X8_isOver_22 hx hb hml hown hts hK o ho p1 _ hret  p1 v _ _ _ hw (lv_sub hl [0, 1] rfl) hP hS
  · have hw := hw.2 c4
    refine lv_iload_n hx hb dX8_isOver_7 rfl (lv_at hl 1 rfl) ?_
    refine lv_aload_n hx hb dX8_isOver_8 rfl (lv_at hl 0 rfl) ?_
    refine w_gI (C := RX8) (T := TX8) (N := 2) (ci := 8) hx hb hts in8 hown hK hP 1 ho.1 ho rfl (by decide) (hts _ mf_X8_15) dX8_isOver_9 ?_
    refine lv_topi (fun x9 ex9 => ?_)
    have hw := hw x9 ex9
    refine lv_isub hx hb dX8_isOver_12 ?_
    refine lv_topi (fun x12 ex12 => ?_)
    have hw := hw x12 ex12
    refine lv_bipush (v := 8) hx hb dX8_isOver_13 (by decide) ?_
    refine lv_icmp_lt (tgt := 22) hx hb dX8_isOver_15 (by decide) (fun c15 => ?_) (fun c15 => ?_)
    · have hw := hw.1 c15
      exact tb_X8_isOver_22 hx hb hml hown hts hK o ho p1 _ hret  p1 v _ _ _ hw (lv_sub hl [0, 1] rfl) hP hS
    · have hw := hw.2 c15
      refine lv_iconst (v := 1) hx hb dX8_isOver_18 (by decide) ?_
      refine lv_goto (tgt := 23) hx hb dX8_isOver_19 (by decide) ?_
      exact hret _ _ _ _ _ _ dX8_isOver_23 (by decide) hw hP hS
def b_X8_isDueAgain_20 (o : Nat) (p1 : Int32) (Q : Int32 → VV → Prop) (a1 : Int32) (v : VV) : Prop :=
  Q 0 v
set_option maxHeartbeats 4000000 in
set_option maxRecDepth 100000 in
theorem tb_X8_isDueAgain_20 {p : Program} {l : Launch} {e : Env} {s : State} {m : MethodId} {args : Array Value} {below : List Frame} {meth : Method} {c : Code} {QQ : State → Prop} {dC : Nat → ClassId} {dI : Nat → Nat → Nat} {base : Nat} {cy : Nat → ClassId} (hx : p.tables.exec = Jvm.exec) (hb : c.code = cX8_isDueAgain) (hml : c.maxLocals = 2) (hown : s.vm.findClass RX8 = some m.cls) (hts : ∀ w ∈ TB, w.before args s = true) (hK : va_K (dC, dI) vwCl (tyL cy) s) (o : Nat) (ho : isO 8 o) (p1 : Int32) (Q : Int32 → VV → Prop) (hret : ∀ (pc : Nat) (x : Int32) (v : VV) (H : Heap) (locs : List Loc) (ls : Array Slot), decode cX8_isDueAgain pc = .ok (.ireturn, 1) → (x = 0 ∨ x = 1) → Q x v → va_P (dC, dI) vwCl (Wd base cy rf v 874) H → va_S (fun q => base ≤ q) s.heap H locs → W p l e { frames := 1, cells := 0, slots := 0, locals := 21 } s m args below meth c H locs 0 0 QQ (F0 m pc ls [.int x])) (a1 : Int32) (v : VV) (H : Heap) (locs : List Loc) (ls : Array Slot) (hw : b_X8_isDueAgain_20 o p1 Q  a1 v) : lv_has ls 2 [(0, .ref (base + o)), (1, .int a1)] → va_P (dC, dI) vwCl (Wd base cy rf v 874) H → va_S (fun q => base ≤ q) s.heap H locs → W p l e { frames := 1, cells := 0, slots := 0, locals := 21 } s m args below meth c H locs 0 0 QQ (F0 m 20 ls []) := by
  intro hl hP hS
  refine lv_iconst (v := 0) hx hb dX8_isDueAgain_20 (by decide) ?_
  exact hret _ _ _ _ _ _ dX8_isDueAgain_21 (by decide) hw hP hS
def w_X8_isDueAgain (o : Nat) (p1 : Int32) (v : VV) (Q : Int32 → VV → Prop) : Prop :=
  ∀ x1 : Int32, x1 = v o 0 → (4 ≤ x1 → b_X8_isDueAgain_20 o p1 Q  p1 v) ∧ (¬ 4 ≤ x1 → w_X8_isOver o p1 v (fun (x10 : Int32) (v1 : VV) => (x10 = 0 → b_X8_isDueAgain_20 o p1 Q  p1 v1) ∧ (¬ x10 = 0 → Q 1 v1)))
set_option maxHeartbeats 4000000 in
set_option maxRecDepth 100000 in
/-- TransportFour$Wait.isDueAgain -/
theorem t_X8_isDueAgain (l : Launch) (dC : Nat → ClassId) (dI : Nat → Nat → Nat) (base : Nat) (cy : Nat → ClassId) (o : Nat) (ho : isO 8 o) (p1 : Int32) (v : VV) (Q : Int32 → VV → Prop) (hw : w_X8_isDueAgain o p1 v Q) : CI l yX8_isDueAgain (.code yX8_isDueAgain cX8_isDueAgain 2 (some .boolean) :: TB) { frames := 1, cells := 0, slots := 0, locals := 21 } dC dI base cy [.ref (base + o), .int p1] v Q := by
  refine Met.ofW (cc := cX8_isDueAgain) (maxL := 2) (ret := (some .boolean)) (by decide) rfl ?_
  intro p e s m args below meth c s₁ B hml hv
  obtain ⟨rfl, hP, hK⟩ := hv
  have hx := B.exec
  have hb := B.bytes
  have hr := B.returns
  have hts0 := atoms_spec (ws := (.code yX8_isDueAgain cX8_isDueAgain 2 (some .boolean) :: TB)) B.pre
  have hts : ∀ w ∈ TB, w.before ([.ref (base + o), .int p1]).toArray s = true := fun w h => hts0 w (List.mem_cons_of_mem _ h)
  have hown : s.vm.findClass RX8 = some m.cls := findClass_of_methodNamed B.named
  have hlocks := B.notSynchronized
  have hS : va_S (fun q => base ≤ q) s.heap s.heap [] := va_S.rf
  have hl := lv_entry ([.ref (base + o), .int p1]) (n := 2) (Nat.le_of_ble_eq_true rfl)
  rw [lg_entry_eq]
  generalize (lg_sl ([.ref (base + o), .int p1]) ++ List.replicate (2 - (lg_sl ([.ref (base + o), .int p1])).length) Slot.unset).toArray = ls at hl ⊢
  have hl : lv_has ls 2 [(0, .ref (base + o)), (1, .int p1)] := hl
  have hret : ∀ (pc : Nat) (x : Int32) (v : VV) (H : Heap) (locs : List Loc) (ls : Array Slot), decode cX8_isDueAgain pc = .ok (.ireturn, 1) → (x = 0 ∨ x = 1) → Q x v → va_P (dC, dI) vwCl (Wd base cy rf v 874) H → va_S (fun q => base ≤ q) s.heap H locs → W p l e { frames := 1, cells := 0, slots := 0, locals := 21 } s m ([.ref (base + o), .int p1]).toArray below meth c H locs 0 0 (MQ below (va_Qi Q (Hp dC dI base cy) (fun q => base ≤ q)) ([.ref (base + o), .int p1]).toArray s 0 0 (fun q => base ≤ q)) (F0 m pc ls [.int x]) := fun pc x v H locs ls hd hz hq hP hS => W.zret (v := x) hx hb hr (zb_n hz) (fun t ht hW => ⟨⟨x, v, rfl, hq, by rw [ht]; exact hP, va_K.moved hW.alike hK⟩, hS.F ht⟩) hS.2.2 hd
  refine lv_aload_n hx hb dX8_isDueAgain_0 rfl (lv_at hl 0 rfl) ?_
  refine w_gI (C := RX8) (T := TX8) (N := 2) (ci := 8) hx hb hts in8 hown hK hP 0 ho.1 ho rfl (by decide) (hts _ mf_X8_9) dX8_isDueAgain_1 ?_
  refine lv_topi (fun x1 ex1 => ?_)
  have hw := hw x1 ex1
  refine lv_iconst (v := 4) hx hb dX8_isDueAgain_4 (by decide) ?_
  refine lv_icmp_ge (tgt := 20) hx hb dX8_isDueAgain_5 (by decide) (fun c5 => ?_) (fun c5 => ?_)
  · have hw := hw.1 c5
    exact tb_X8_isDueAgain_20 hx hb hml hown hts hK o ho p1 _ hret  p1 v _ _ _ hw (lv_sub hl [0, 1] rfl) hP hS
  · have hw := hw.2 c5
    refine lv_aload_n hx hb dX8_isDueAgain_8 rfl (lv_at hl 0 rfl) ?_
    refine lv_iload_n hx hb dX8_isDueAgain_9 rfl (lv_at hl 1 rfl) ?_
    refine k_I (As := [.int p1]) (rest := []) ⟨hx, hb, hml, hown, hts⟩ (t_X8_isOver l dC dI base cy o ho p1 v _ hw) (cwV 1 hts (gV ml_X8_18 mi_X8_isOver mx_X8_isOver mn_X8 mo_X8_isOver) rfl rfl rfl (by decide +kernel) ⟨by decide, by decide⟩) hK hP hS ho (by decide) rfl rfl hl.1 rfl (Nat.le_of_ble_eq_true rfl) dX8_isDueAgain_10 ⟨Nat.zero_le _, Nat.zero_le _⟩ (fun x10 v1 H locs hw hP hS => ?_)
    refine lv_if_eq (tgt := 20) hx hb dX8_isDueAgain_13 (by decide) (fun c13 => ?_) (fun c13 => ?_)
    · have hw := hw.1 c13
      exact tb_X8_isDueAgain_20 hx hb hml hown hts hK o ho p1 _ hret  p1 v1 _ _ _ hw (lv_sub hl [0, 1] rfl) hP hS
    · have hw := hw.2 c13
      refine lv_iconst (v := 1) hx hb dX8_isDueAgain_16 (by decide) ?_
      refine lv_goto (tgt := 21) hx hb dX8_isDueAgain_17 (by decide) ?_
      exact hret _ _ _ _ _ _ dX8_isDueAgain_21 (by decide) hw hP hS
def b_X0_sendDueAgain_63 (o : Nat) (Q : VV → Prop) (K23 : Int32 → VV → Prop) (a1 : Int32) (v : VV) : Prop :=
  ∀ x63 : Int32, x63 = a1 + 1 → K23 x63 v
set_option maxHeartbeats 4000000 in
set_option maxRecDepth 100000 in
theorem tb_X0_sendDueAgain_63 {p : Program} {l : Launch} {e : Env} {s : State} {m : MethodId} {args : Array Value} {below : List Frame} {meth : Method} {c : Code} {QQ : State → Prop} {dC : Nat → ClassId} {dI : Nat → Nat → Nat} {base : Nat} {cy : Nat → ClassId} (hx : p.tables.exec = Jvm.exec) (hb : c.code = cX0_sendDueAgain) (hml : c.maxLocals = 2) (hown : s.vm.findClass RX0 = some m.cls) (hts : ∀ w ∈ TB, w.before args s = true) (hK : va_K (dC, dI) vwCl (tyL cy) s) (o : Nat) (ho : isO 0 o) (Q : VV → Prop) (hret : ∀ (pc : Nat) (v : VV) (H : Heap) (locs : List Loc) (ls : Array Slot), decode cX0_sendDueAgain pc = .ok (.return_, 1) → Q v → va_P (dC, dI) vwCl (Wd base cy rf v 874) H → va_S (fun q => base ≤ q) s.heap H locs → W p l e { frames := 4, cells := 0, slots := 0, locals := 92 } s m args below meth c H locs 0 0 QQ (F0 m pc ls [])) (K23 : Int32 → VV → Prop) (hK23 : ∀ (a1 : Int32) (v : VV) (H : Heap) (locs : List Loc) (ls : Array Slot), K23 a1 v → lv_has ls 2 [(0, .ref (base + o)), (1, .int a1)] → va_P (dC, dI) vwCl (Wd base cy rf v 874) H → va_S (fun q => base ≤ q) s.heap H locs → W p l e { frames := 4, cells := 0, slots := 0, locals := 92 } s m args below meth c H locs 0 0 QQ (F0 m 23 ls [])) (a1 : Int32) (v : VV) (H : Heap) (locs : List Loc) (ls : Array Slot) (hw : b_X0_sendDueAgain_63 o Q K23 a1 v) : lv_has ls 2 [(0, .ref (base + o)), (1, .int a1)] → va_P (dC, dI) vwCl (Wd base cy rf v 874) H → va_S (fun q => base ≤ q) s.heap H locs → W p l e { frames := 4, cells := 0, slots := 0, locals := 92 } s m args below meth c H locs 0 0 QQ (F0 m 63 ls []) := by
  intro hl hP hS
  obtain ⟨x63, ex63⟩ : ∃ y : Int32, y = a1 + 1 := ⟨_, rfl⟩
  have hw := hw x63 ex63
  refine lv_iinc (v := x63) (lv' := [(1, .int x63), (0, .ref (base + o))]) hx hb dX0_sendDueAgain_63 hl (k := 1) rfl (by rw [ex63]; first | rfl | (rw [show Int32.ofInt (-1) = (-1 : Int32) from by decide])) (by decide) rfl (fun ls hl => ?_)
  refine lv_goto (tgt := 23) hx hb dX0_sendDueAgain_66 (by decide) ?_
  exact hK23 x63 v _ _ _ hw (lv_sub hl [1, 0] rfl) hP hS
def b_X0_sendDueAgain_23 (o : Nat) (Q : VV → Prop) (fu : Nat) : Int32 → VV → Prop :=
  Nat.rec (motive := fun _ => Int32 → VV → Prop) (fun _ _ => False) (fun _ ih a1 v => ∀ x28 : Int32, x28 = v (o + 1) 3 → (x28 ≤ a1 → ∀ x80 : Int32, x80 = v 1 10 → w_X8_isDueAgain (o + 140 + 2) x80 v (fun (x83 : Int32) (v1 : VV) => (x83 = 0 → Q v1) ∧ (¬ x83 = 0 → w_X0_sendFirstUrgent o v1 (fun (v2 : VV) => Q v2)))) ∧ (¬ x28 ≤ a1 → w_X3_pieceAt (o + 1) a1 v (fun (t39 : Nat) (v3 : VV) => isO 4 t39 ∧ ∀ x49 : Int32, x49 = v3 1 10 → w_X8_isDueAgain (t39 + 2) x49 v3 (fun (x52 : Int32) (v4 : VV) => (x52 = 0 → b_X0_sendDueAgain_63 o Q ih a1 v4) ∧ (¬ x52 = 0 → w_X0_sendPiece o a1 v4 (fun (v5 : VV) => b_X0_sendDueAgain_63 o Q ih a1 v5)))))) fu
set_option maxHeartbeats 4000000 in
set_option maxRecDepth 100000 in
theorem tb_X0_sendDueAgain_23 {p : Program} {l : Launch} {e : Env} {s : State} {m : MethodId} {args : Array Value} {below : List Frame} {meth : Method} {c : Code} {QQ : State → Prop} {dC : Nat → ClassId} {dI : Nat → Nat → Nat} {base : Nat} {cy : Nat → ClassId} (hx : p.tables.exec = Jvm.exec) (hb : c.code = cX0_sendDueAgain) (hml : c.maxLocals = 2) (hown : s.vm.findClass RX0 = some m.cls) (hts : ∀ w ∈ TB, w.before args s = true) (hK : va_K (dC, dI) vwCl (tyL cy) s) (o : Nat) (ho : isO 0 o) (Q : VV → Prop) (hret : ∀ (pc : Nat) (v : VV) (H : Heap) (locs : List Loc) (ls : Array Slot), decode cX0_sendDueAgain pc = .ok (.return_, 1) → Q v → va_P (dC, dI) vwCl (Wd base cy rf v 874) H → va_S (fun q => base ≤ q) s.heap H locs → W p l e { frames := 4, cells := 0, slots := 0, locals := 92 } s m args below meth c H locs 0 0 QQ (F0 m pc ls [])) : ∀ (fu : Nat) (a1 : Int32) (v : VV) (H : Heap) (locs : List Loc) (ls : Array Slot), b_X0_sendDueAgain_23 o Q  fu a1 v → lv_has ls 2 [(0, .ref (base + o)), (1, .int a1)] → va_P (dC, dI) vwCl (Wd base cy rf v 874) H → va_S (fun q => base ≤ q) s.heap H locs → W p l e { frames := 4, cells := 0, slots := 0, locals := 92 } s m args below meth c H locs 0 0 QQ (F0 m 23 ls []) := by
  intro fu
  induction fu with
  | zero =>
    intro a1 v H locs ls hw hl hP hS
    exact hw.elim
  | succ fu ih =>
    intro a1 v H locs ls hw hl hP hS
    refine lv_iload_n hx hb dX0_sendDueAgain_23 rfl (lv_at hl 1 rfl) ?_
    refine lv_aload_n hx hb dX0_sendDueAgain_24 rfl (lv_at hl 0 rfl) ?_
    refine w_gR (C := RX0) (T := TX0) (N := 15) (ci := 0) hx hb hts in0 hown hK hP 2 ho.1 ho rfl (by decide) (ch0_2 ho).1 (hts _ mf_X0_12) dX0_sendDueAgain_25 ?_
    refine w_gI (C := RX3) (T := TX3) (N := 6) (ci := 3) hx hb hts in3 hown hK hP 3 (ch0_2 ho).2.1 (ch0_2 ho).2 rfl (by decide) (hts _ mf_X0_134) dX0_sendDueAgain_28 ?_
    refine lv_topi (fun x28 ex28 => ?_)
    have hw := hw x28 ex28
    refine lv_icmp_ge (tgt := 69) hx hb dX0_sendDueAgain_31 (by decide) (fun c31 => ?_) (fun c31 => ?_)
    · have hw := hw.1 c31
      refine lv_aload_n hx hb dX0_sendDueAgain_69 rfl (lv_at hl 0 rfl) ?_
      refine w_gR (C := RX0) (T := TX0) (N := 15) (ci := 0) hx hb hts in0 hown hK hP 4 ho.1 ho rfl (by decide) (ch0_4 ho).1 (hts _ mf_X0_28) dX0_sendDueAgain_70 ?_
      refine w_gR (C := RX7) (T := TX7) (N := 4) (ci := 7) hx hb hts in7 hown hK hP 1 (ch0_4 ho).2.1 (ch0_4 ho).2 rfl (by decide) (ch7_1 (ch0_4 ho).2).1 (hts _ mf_X0_249) dX0_sendDueAgain_73 ?_
      refine lv_aload_n hx hb dX0_sendDueAgain_76 rfl (lv_at hl 0 rfl) ?_
      refine w_gR (C := RX0) (T := TX0) (N := 15) (ci := 0) hx hb hts in0 hown hK hP 1 ho.1 ho rfl (by decide) (ch0_1 ho).1 (hts _ mf_X0_53) dX0_sendDueAgain_77 ?_
      refine w_gI (C := RX2) (T := TX2) (N := 11) (ci := 2) hx hb hts in2 hown hK hP 10 (ch0_1 ho).2.1 (ch0_1 ho).2 rfl (by decide) (hts _ mf_X0_88) dX0_sendDueAgain_80 ?_
      refine lv_topi (fun x80 ex80 => ?_)
      have hw := hw x80 ex80
      refine k_I (As := [.int x80]) (rest := []) ⟨hx, hb, hml, hown, hts⟩ (t_X8_isDueAgain l dC dI base cy (o + 140 + 2) (ch7_1 (ch0_4 ho).2).2 x80 v _ hw) (cwV 1 hts (gV ml_X0_234 mi_X8_isDueAgain mx_X8_isDueAgain mn_X8 mo_X8_isDueAgain) rfl rfl rfl (by decide +kernel) ⟨by decide, by decide⟩) hK hP hS (ch7_1 (ch0_4 ho).2).2 (by decide) rfl rfl hl.1 rfl (Nat.le_of_ble_eq_true rfl) dX0_sendDueAgain_83 ⟨Nat.zero_le _, Nat.zero_le _⟩ (fun x83 v1 H locs hw hP hS => ?_)
      refine lv_if_eq (tgt := 93) hx hb dX0_sendDueAgain_86 (by decide) (fun c86 => ?_) (fun c86 => ?_)
      · have hw := hw.1 c86
        exact hret _ _ _ _ _ dX0_sendDueAgain_93 hw hP hS
      · have hw := hw.2 c86
        refine lv_aload_n hx hb dX0_sendDueAgain_89 rfl (lv_at hl 0 rfl) ?_
        refine k_V (As := []) (rest := []) ⟨hx, hb, hml, hown, hts⟩ (t_X0_sendFirstUrgent l dC dI base cy o ho v1 _ hw) (cwV 0 hts (gV ml_X0_250 mi_X0_sendFirstUrgent mx_X0_sendFirstUrgent mn_X0 mo_X0_sendFirstUrgent) rfl rfl rfl (by decide +kernel) ⟨by decide, by decide⟩) hK hP hS ho (by decide) rfl rfl hl.1 rfl (Nat.le_of_ble_eq_true rfl) dX0_sendDueAgain_90 ⟨Nat.zero_le _, Nat.zero_le _⟩ (fun v2 H locs hw hP hS => ?_)
        exact hret _ _ _ _ _ dX0_sendDueAgain_93 hw hP hS
    · have hw := hw.2 c31
      refine lv_aload_n hx hb dX0_sendDueAgain_34 rfl (lv_at hl 0 rfl) ?_
      refine w_gR (C := RX0) (T := TX0) (N := 15) (ci := 0) hx hb hts in0 hown hK hP 2 ho.1 ho rfl (by decide) (ch0_2 ho).1 (hts _ mf_X0_12) dX0_sendDueAgain_35 ?_
      refine lv_iload_n hx hb dX0_sendDueAgain_38 rfl (lv_at hl 1 rfl) ?_
      refine k_Q (As := [.int a1]) (rest := []) ⟨hx, hb, hml, hown, hts⟩ (t_X3_pieceAt l dC dI base cy (o + 1) (ch0_2 ho).2 a1 v _ hw) (cwV 1 hts (gV ml_X0_237 mi_X3_pieceAt mx_X3_pieceAt mn_X3 mo_X3_pieceAt) rfl rfl rfl (by decide +kernel) ⟨by decide, by decide⟩) hK hP hS (ch0_2 ho).2 (by decide) rfl rfl hl.1 rfl (Nat.le_of_ble_eq_true rfl) dX0_sendDueAgain_39 ⟨Nat.zero_le _, Nat.zero_le _⟩ (fun t39 v3 H locs hw hP hS => ?_)
      obtain ⟨ht39, hw⟩ := hw
      refine w_gR (C := RX4) (T := TX4) (N := 4) (ci := 4) hx hb hts in4 hown hK hP 1 ht39.1 ht39 rfl (by decide) (ch4_1 ht39).1 (hts _ mf_X0_241) dX0_sendDueAgain_42 ?_
      refine lv_aload_n hx hb dX0_sendDueAgain_45 rfl (lv_at hl 0 rfl) ?_
      refine w_gR (C := RX0) (T := TX0) (N := 15) (ci := 0) hx hb hts in0 hown hK hP 1 ho.1 ho rfl (by decide) (ch0_1 ho).1 (hts _ mf_X0_53) dX0_sendDueAgain_46 ?_
      refine w_gI (C := RX2) (T := TX2) (N := 11) (ci := 2) hx hb hts in2 hown hK hP 10 (ch0_1 ho).2.1 (ch0_1 ho).2 rfl (by decide) (hts _ mf_X0_88) dX0_sendDueAgain_49 ?_
      refine lv_topi (fun x49 ex49 => ?_)
      have hw := hw x49 ex49
      refine k_I (As := [.int x49]) (rest := []) ⟨hx, hb, hml, hown, hts⟩ (t_X8_isDueAgain l dC dI base cy (t39 + 2) (ch4_1 ht39).2 x49 v3 _ hw) (cwV 1 hts (gV ml_X0_234 mi_X8_isDueAgain mx_X8_isDueAgain mn_X8 mo_X8_isDueAgain) rfl rfl rfl (by decide +kernel) ⟨by decide, by decide⟩) hK hP hS (ch4_1 ht39).2 (by decide) rfl rfl hl.1 rfl (Nat.le_of_ble_eq_true rfl) dX0_sendDueAgain_52 ⟨Nat.zero_le _, Nat.zero_le _⟩ (fun x52 v4 H locs hw hP hS => ?_)
      refine lv_if_eq (tgt := 63) hx hb dX0_sendDueAgain_55 (by decide) (fun c55 => ?_) (fun c55 => ?_)
      · have hw := hw.1 c55
        exact tb_X0_sendDueAgain_63 hx hb hml hown hts hK o ho _ hret _ ih a1 v4 _ _ _ hw (lv_sub hl [0, 1] rfl) hP hS
      · have hw := hw.2 c55
        refine lv_aload_n hx hb dX0_sendDueAgain_58 rfl (lv_at hl 0 rfl) ?_
        refine lv_iload_n hx hb dX0_sendDueAgain_59 rfl (lv_at hl 1 rfl) ?_
        refine k_V (As := [.int a1]) (rest := []) ⟨hx, hb, hml, hown, hts⟩ (t_X0_sendPiece l dC dI base cy o ho a1 v4 _ hw) (cwV 1 hts (gV ml_X0_246 mi_X0_sendPiece mx_X0_sendPiece mn_X0 mo_X0_sendPiece) rfl rfl rfl (by decide +kernel) ⟨by decide, by decide⟩) hK hP hS ho (by decide) rfl rfl hl.1 rfl (Nat.le_of_ble_eq_true rfl) dX0_sendDueAgain_60 ⟨Nat.zero_le _, Nat.zero_le _⟩ (fun v5 H locs hw hP hS => ?_)
        exact tb_X0_sendDueAgain_63 hx hb hml hown hts hK o ho _ hret _ ih a1 v5 _ _ _ hw (lv_sub hl [0, 1] rfl) hP hS
def b_X0_sendDueAgain_21 (o : Nat) (Q : VV → Prop)  (v : VV) : Prop :=
  ∃ fu : Nat, b_X0_sendDueAgain_23 o Q  fu 0 v
set_option maxHeartbeats 4000000 in
set_option maxRecDepth 100000 in
theorem tb_X0_sendDueAgain_21 {p : Program} {l : Launch} {e : Env} {s : State} {m : MethodId} {args : Array Value} {below : List Frame} {meth : Method} {c : Code} {QQ : State → Prop} {dC : Nat → ClassId} {dI : Nat → Nat → Nat} {base : Nat} {cy : Nat → ClassId} (hx : p.tables.exec = Jvm.exec) (hb : c.code = cX0_sendDueAgain) (hml : c.maxLocals = 2) (hown : s.vm.findClass RX0 = some m.cls) (hts : ∀ w ∈ TB, w.before args s = true) (hK : va_K (dC, dI) vwCl (tyL cy) s) (o : Nat) (ho : isO 0 o) (Q : VV → Prop) (hret : ∀ (pc : Nat) (v : VV) (H : Heap) (locs : List Loc) (ls : Array Slot), decode cX0_sendDueAgain pc = .ok (.return_, 1) → Q v → va_P (dC, dI) vwCl (Wd base cy rf v 874) H → va_S (fun q => base ≤ q) s.heap H locs → W p l e { frames := 4, cells := 0, slots := 0, locals := 92 } s m args below meth c H locs 0 0 QQ (F0 m pc ls []))  (v : VV) (H : Heap) (locs : List Loc) (ls : Array Slot) (hw : b_X0_sendDueAgain_21 o Q   v) : lv_has ls 2 [(0, .ref (base + o))] → va_P (dC, dI) vwCl (Wd base cy rf v 874) H → va_S (fun q => base ≤ q) s.heap H locs → W p l e { frames := 4, cells := 0, slots := 0, locals := 92 } s m args below meth c H locs 0 0 QQ (F0 m 21 ls []) := by
  intro hl hP hS
  refine lv_iconst (v := 0) hx hb dX0_sendDueAgain_21 (by decide) ?_
  refine lv_istore_n (lv' := [(1, .int 0), (0, .ref (base + o))]) hx hb dX0_sendDueAgain_22 rfl hl (by decide) rfl (fun ls hl => ?_)
  obtain ⟨fu, hw⟩ := hw
  exact tb_X0_sendDueAgain_23 hx hb hml hown hts hK o ho _ hret  fu 0 v _ _ _ hw (lv_sub hl [1, 0] rfl) hP hS
def w_X0_sendDueAgain (o : Nat) (v : VV) (Q : VV → Prop) : Prop :=
  ∀ x8 : Int32, x8 = v 1 10 → w_X8_isDueAgain (o + 145) x8 v (fun (x11 : Int32) (v1 : VV) => (x11 = 0 → b_X0_sendDueAgain_21 o Q   v1) ∧ (¬ x11 = 0 → w_X0_sendAwaitedLink o v1 (fun (v2 : VV) => b_X0_sendDueAgain_21 o Q   v2)))
set_option maxHeartbeats 4000000 in
set_option maxRecDepth 100000 in
/-- TransportFour$End.sendDueAgain -/
theorem t_X0_sendDueAgain (l : Launch) (dC : Nat → ClassId) (dI : Nat → Nat → Nat) (base : Nat) (cy : Nat → ClassId) (o : Nat) (ho : isO 0 o) (v : VV) (Q : VV → Prop) (hw : w_X0_sendDueAgain o v Q) : CV l yX0_sendDueAgain (.code yX0_sendDueAgain cX0_sendDueAgain 2 none :: TB) { frames := 4, cells := 0, slots := 0, locals := 92 } dC dI base cy [.ref (base + o)] v Q := by
  refine Met.ofW (cc := cX0_sendDueAgain) (maxL := 2) (ret := none) (by decide) rfl ?_
  intro p e s m args below meth c s₁ B hml hv
  obtain ⟨rfl, hP, hK⟩ := hv
  have hx := B.exec
  have hb := B.bytes
  have hr := B.returns
  have hts0 := atoms_spec (ws := (.code yX0_sendDueAgain cX0_sendDueAgain 2 none :: TB)) B.pre
  have hts : ∀ w ∈ TB, w.before ([.ref (base + o)]).toArray s = true := fun w h => hts0 w (List.mem_cons_of_mem _ h)
  have hown : s.vm.findClass RX0 = some m.cls := findClass_of_methodNamed B.named
  have hlocks := B.notSynchronized
  have hS : va_S (fun q => base ≤ q) s.heap s.heap [] := va_S.rf
  have hl := lv_entry ([.ref (base + o)]) (n := 2) (Nat.le_of_ble_eq_true rfl)
  rw [lg_entry_eq]
  generalize (lg_sl ([.ref (base + o)]) ++ List.replicate (2 - (lg_sl ([.ref (base + o)])).length) Slot.unset).toArray = ls at hl ⊢
  have hl : lv_has ls 2 [(0, .ref (base + o))] := hl
  have hret : ∀ (pc : Nat) (v : VV) (H : Heap) (locs : List Loc) (ls : Array Slot), decode cX0_sendDueAgain pc = .ok (.return_, 1) → Q v → va_P (dC, dI) vwCl (Wd base cy rf v 874) H → va_S (fun q => base ≤ q) s.heap H locs → W p l e { frames := 4, cells := 0, slots := 0, locals := 92 } s m ([.ref (base + o)]).toArray below meth c H locs 0 0 (MQ below (va_Qv Q (Hp dC dI base cy) (fun q => base ≤ q)) ([.ref (base + o)]).toArray s 0 0 (fun q => base ≤ q)) (F0 m pc ls []) := fun pc v H locs ls hd hq hP hS => W.vret hx hb hr (fun t ht hW => ⟨⟨v, rfl, hq, by rw [ht]; exact hP, va_K.moved hW.alike hK⟩, hS.F ht⟩) hS.2.2 hd
  refine lv_aload_n hx hb dX0_sendDueAgain_0 rfl (lv_at hl 0 rfl) ?_
  refine w_gR (C := RX0) (T := TX0) (N := 15) (ci := 0) hx hb hts in0 hown hK hP 6 ho.1 ho rfl (by decide) (ch0_6 ho).1 (hts _ mf_X0_42) dX0_sendDueAgain_1 ?_
  refine lv_aload_n hx hb dX0_sendDueAgain_4 rfl (lv_at hl 0 rfl) ?_
  refine w_gR (C := RX0) (T := TX0) (N := 15) (ci := 0) hx hb hts in0 hown hK hP 1 ho.1 ho rfl (by decide) (ch0_1 ho).1 (hts _ mf_X0_53) dX0_sendDueAgain_5 ?_
  refine w_gI (C := RX2) (T := TX2) (N := 11) (ci := 2) hx hb hts in2 hown hK hP 10 (ch0_1 ho).2.1 (ch0_1 ho).2 rfl (by decide) (hts _ mf_X0_88) dX0_sendDueAgain_8 ?_
  refine lv_topi (fun x8 ex8 => ?_)
  have hw := hw x8 ex8
  refine k_I (As := [.int x8]) (rest := []) ⟨hx, hb, hml, hown, hts⟩ (t_X8_isDueAgain l dC dI base cy (o + 145) (ch0_6 ho).2 x8 v _ hw) (cwV 1 hts (gV ml_X0_234 mi_X8_isDueAgain mx_X8_isDueAgain mn_X8 mo_X8_isDueAgain) rfl rfl rfl (by decide +kernel) ⟨by decide, by decide⟩) hK hP hS (ch0_6 ho).2 (by decide) rfl rfl hl.1 rfl (Nat.le_of_ble_eq_true rfl) dX0_sendDueAgain_11 ⟨Nat.zero_le _, Nat.zero_le _⟩ (fun x11 v1 H locs hw hP hS => ?_)
  refine lv_if_eq (tgt := 21) hx hb dX0_sendDueAgain_14 (by decide) (fun c14 => ?_) (fun c14 => ?_)
  · have hw := hw.1 c14
    exact tb_X0_sendDueAgain_21 hx hb hml hown hts hK o ho _ hret   v1 _ _ _ hw (lv_sub hl [0] rfl) hP hS
  · have hw := hw.2 c14
    refine lv_aload_n hx hb dX0_sendDueAgain_17 rfl (lv_at hl 0 rfl) ?_
    refine k_V (As := []) (rest := []) ⟨hx, hb, hml, hown, hts⟩ (t_X0_sendAwaitedLink l dC dI base cy o ho v1 _ hw) (cwV 0 hts (gV ml_X0_68 mi_X0_sendAwaitedLink mx_X0_sendAwaitedLink mn_X0 mo_X0_sendAwaitedLink) rfl rfl rfl (by decide +kernel) ⟨by decide, by decide⟩) hK hP hS ho (by decide) rfl rfl hl.1 rfl (Nat.le_of_ble_eq_true rfl) dX0_sendDueAgain_18 ⟨Nat.zero_le _, Nat.zero_le _⟩ (fun v2 H locs hw hP hS => ?_)
    exact tb_X0_sendDueAgain_21 hx hb hml hown hts hK o ho _ hret   v2 _ _ _ hw (lv_sub hl [0] rfl) hP hS
def b_X8_isSpent_20 (o : Nat) (p1 : Int32) (Q : Int32 → VV → Prop) (a1 : Int32) (v : VV) : Prop :=
  Q 0 v
set_option maxHeartbeats 4000000 in
set_option maxRecDepth 100000 in
theorem tb_X8_isSpent_20 {p : Program} {l : Launch} {e : Env} {s : State} {m : MethodId} {args : Array Value} {below : List Frame} {meth : Method} {c : Code} {QQ : State → Prop} {dC : Nat → ClassId} {dI : Nat → Nat → Nat} {base : Nat} {cy : Nat → ClassId} (hx : p.tables.exec = Jvm.exec) (hb : c.code = cX8_isSpent) (hml : c.maxLocals = 2) (hown : s.vm.findClass RX8 = some m.cls) (hts : ∀ w ∈ TB, w.before args s = true) (hK : va_K (dC, dI) vwCl (tyL cy) s) (o : Nat) (ho : isO 8 o) (p1 : Int32) (Q : Int32 → VV → Prop) (hret : ∀ (pc : Nat) (x : Int32) (v : VV) (H : Heap) (locs : List Loc) (ls : Array Slot), decode cX8_isSpent pc = .ok (.ireturn, 1) → (x = 0 ∨ x = 1) → Q x v → va_P (dC, dI) vwCl (Wd base cy rf v 874) H → va_S (fun q => base ≤ q) s.heap H locs → W p l e { frames := 1, cells := 0, slots := 0, locals := 21 } s m args below meth c H locs 0 0 QQ (F0 m pc ls [.int x])) (a1 : Int32) (v : VV) (H : Heap) (locs : List Loc) (ls : Array Slot) (hw : b_X8_isSpent_20 o p1 Q  a1 v) : lv_has ls 2 [(0, .ref (base + o)), (1, .int a1)] → va_P (dC, dI) vwCl (Wd base cy rf v 874) H → va_S (fun q => base ≤ q) s.heap H locs → W p l e { frames := 1, cells := 0, slots := 0, locals := 21 } s m args below meth c H locs 0 0 QQ (F0 m 20 ls []) := by
  intro hl hP hS
  refine lv_iconst (v := 0) hx hb dX8_isSpent_20 (by decide) ?_
  exact hret _ _ _ _ _ _ dX8_isSpent_21 (by decide) hw hP hS
def w_X8_isSpent (o : Nat) (p1 : Int32) (v : VV) (Q : Int32 → VV → Prop) : Prop :=
  ∀ x1 : Int32, x1 = v o 0 → (x1 < 4 → b_X8_isSpent_20 o p1 Q  p1 v) ∧ (¬ x1 < 4 → w_X8_isOver o p1 v (fun (x10 : Int32) (v1 : VV) => (x10 = 0 → b_X8_isSpent_20 o p1 Q  p1 v1) ∧ (¬ x10 = 0 → Q 1 v1)))
set_option maxHeartbeats 4000000 in
set_option maxRecDepth 100000 in
/-- TransportFour$Wait.isSpent -/
theorem t_X8_isSpent (l : Launch) (dC : Nat → ClassId) (dI : Nat → Nat → Nat) (base : Nat) (cy : Nat → ClassId) (o : Nat) (ho : isO 8 o) (p1 : Int32) (v : VV) (Q : Int32 → VV → Prop) (hw : w_X8_isSpent o p1 v Q) : CI l yX8_isSpent (.code yX8_isSpent cX8_isSpent 2 (some .boolean) :: TB) { frames := 1, cells := 0, slots := 0, locals := 21 } dC dI base cy [.ref (base + o), .int p1] v Q := by
  refine Met.ofW (cc := cX8_isSpent) (maxL := 2) (ret := (some .boolean)) (by decide) rfl ?_
  intro p e s m args below meth c s₁ B hml hv
  obtain ⟨rfl, hP, hK⟩ := hv
  have hx := B.exec
  have hb := B.bytes
  have hr := B.returns
  have hts0 := atoms_spec (ws := (.code yX8_isSpent cX8_isSpent 2 (some .boolean) :: TB)) B.pre
  have hts : ∀ w ∈ TB, w.before ([.ref (base + o), .int p1]).toArray s = true := fun w h => hts0 w (List.mem_cons_of_mem _ h)
  have hown : s.vm.findClass RX8 = some m.cls := findClass_of_methodNamed B.named
  have hlocks := B.notSynchronized
  have hS : va_S (fun q => base ≤ q) s.heap s.heap [] := va_S.rf
  have hl := lv_entry ([.ref (base + o), .int p1]) (n := 2) (Nat.le_of_ble_eq_true rfl)
  rw [lg_entry_eq]
  generalize (lg_sl ([.ref (base + o), .int p1]) ++ List.replicate (2 - (lg_sl ([.ref (base + o), .int p1])).length) Slot.unset).toArray = ls at hl ⊢
  have hl : lv_has ls 2 [(0, .ref (base + o)), (1, .int p1)] := hl
  have hret : ∀ (pc : Nat) (x : Int32) (v : VV) (H : Heap) (locs : List Loc) (ls : Array Slot), decode cX8_isSpent pc = .ok (.ireturn, 1) → (x = 0 ∨ x = 1) → Q x v → va_P (dC, dI) vwCl (Wd base cy rf v 874) H → va_S (fun q => base ≤ q) s.heap H locs → W p l e { frames := 1, cells := 0, slots := 0, locals := 21 } s m ([.ref (base + o), .int p1]).toArray below meth c H locs 0 0 (MQ below (va_Qi Q (Hp dC dI base cy) (fun q => base ≤ q)) ([.ref (base + o), .int p1]).toArray s 0 0 (fun q => base ≤ q)) (F0 m pc ls [.int x]) := fun pc x v H locs ls hd hz hq hP hS => W.zret (v := x) hx hb hr (zb_n hz) (fun t ht hW => ⟨⟨x, v, rfl, hq, by rw [ht]; exact hP, va_K.moved hW.alike hK⟩, hS.F ht⟩) hS.2.2 hd
  refine lv_aload_n hx hb dX8_isSpent_0 rfl (lv_at hl 0 rfl) ?_
  refine w_gI (C := RX8) (T := TX8) (N := 2) (ci := 8) hx hb hts in8 hown hK hP 0 ho.1 ho rfl (by decide) (hts _ mf_X8_9) dX8_isSpent_1 ?_
  refine lv_topi (fun x1 ex1 => ?_)
  have hw := hw x1 ex1
  refine lv_iconst (v := 4) hx hb dX8_isSpent_4 (by decide) ?_
  refine lv_icmp_lt (tgt := 20) hx hb dX8_isSpent_5 (by decide) (fun c5 => ?_) (fun c5 => ?_)
  · have hw := hw.1 c5
    exact tb_X8_isSpent_20 hx hb hml hown hts hK o ho p1 _ hret  p1 v _ _ _ hw (lv_sub hl [0, 1] rfl) hP hS
  · have hw := hw.2 c5
    refine lv_aload_n hx hb dX8_isSpent_8 rfl (lv_at hl 0 rfl) ?_
    refine lv_iload_n hx hb dX8_isSpent_9 rfl (lv_at hl 1 rfl) ?_
    refine k_I (As := [.int p1]) (rest := []) ⟨hx, hb, hml, hown, hts⟩ (t_X8_isOver l dC dI base cy o ho p1 v _ hw) (cwV 1 hts (gV ml_X8_18 mi_X8_isOver mx_X8_isOver mn_X8 mo_X8_isOver) rfl rfl rfl (by decide +kernel) ⟨by decide, by decide⟩) hK hP hS ho (by decide) rfl rfl hl.1 rfl (Nat.le_of_ble_eq_true rfl) dX8_isSpent_10 ⟨Nat.zero_le _, Nat.zero_le _⟩ (fun x10 v1 H locs hw hP hS => ?_)
    refine lv_if_eq (tgt := 20) hx hb dX8_isSpent_13 (by decide) (fun c13 => ?_) (fun c13 => ?_)
    · have hw := hw.1 c13
      exact tb_X8_isSpent_20 hx hb hml hown hts hK o ho p1 _ hret  p1 v1 _ _ _ hw (lv_sub hl [0, 1] rfl) hP hS
    · have hw := hw.2 c13
      refine lv_iconst (v := 1) hx hb dX8_isSpent_16 (by decide) ?_
      refine lv_goto (tgt := 21) hx hb dX8_isSpent_17 (by decide) ?_
      exact hret _ _ _ _ _ _ dX8_isSpent_21 (by decide) hw hP hS
def b_X3_isSpent_2 (o : Nat) (p1 : Int32) (Q : Int32 → VV → Prop) (fu : Nat) : Int32 → Int32 → VV → Prop :=
  Nat.rec (motive := fun _ => Int32 → Int32 → VV → Prop) (fun _ _ _ => False) (fun _ ih a1 a2 v => ∀ x4 : Int32, x4 = v o 3 → (x4 ≤ a2 → Q 0 v) ∧ (¬ x4 ≤ a2 → w_X3_pieceAt o a2 v (fun (t12 : Nat) (v1 : VV) => isO 4 t12 ∧ w_X8_isSpent (t12 + 2) a1 v1 (fun (x19 : Int32) (v2 : VV) => (x19 = 0 → ∀ x27 : Int32, x27 = a2 + 1 → ih a1 x27 v2) ∧ (¬ x19 = 0 → Q 1 v2))))) fu
set_option maxHeartbeats 4000000 in
set_option maxRecDepth 100000 in
theorem tb_X3_isSpent_2 {p : Program} {l : Launch} {e : Env} {s : State} {m : MethodId} {args : Array Value} {below : List Frame} {meth : Method} {c : Code} {QQ : State → Prop} {dC : Nat → ClassId} {dI : Nat → Nat → Nat} {base : Nat} {cy : Nat → ClassId} (hx : p.tables.exec = Jvm.exec) (hb : c.code = cX3_isSpent) (hml : c.maxLocals = 3) (hown : s.vm.findClass RX3 = some m.cls) (hts : ∀ w ∈ TB, w.before args s = true) (hK : va_K (dC, dI) vwCl (tyL cy) s) (o : Nat) (ho : isO 3 o) (p1 : Int32) (Q : Int32 → VV → Prop) (hret : ∀ (pc : Nat) (x : Int32) (v : VV) (H : Heap) (locs : List Loc) (ls : Array Slot), decode cX3_isSpent pc = .ok (.ireturn, 1) → (x = 0 ∨ x = 1) → Q x v → va_P (dC, dI) vwCl (Wd base cy rf v 874) H → va_S (fun q => base ≤ q) s.heap H locs → W p l e { frames := 2, cells := 0, slots := 0, locals := 42 } s m args below meth c H locs 0 0 QQ (F0 m pc ls [.int x])) : ∀ (fu : Nat) (a1 : Int32) (a2 : Int32) (v : VV) (H : Heap) (locs : List Loc) (ls : Array Slot), b_X3_isSpent_2 o p1 Q  fu a1 a2 v → lv_has ls 3 [(0, .ref (base + o)), (1, .int a1), (2, .int a2)] → va_P (dC, dI) vwCl (Wd base cy rf v 874) H → va_S (fun q => base ≤ q) s.heap H locs → W p l e { frames := 2, cells := 0, slots := 0, locals := 42 } s m args below meth c H locs 0 0 QQ (F0 m 2 ls []) := by
  intro fu
  induction fu with
  | zero =>
    intro a1 a2 v H locs ls hw hl hP hS
    exact hw.elim
  | succ fu ih =>
    intro a1 a2 v H locs ls hw hl hP hS
    refine lv_iload_n hx hb dX3_isSpent_2 rfl (lv_at hl 2 rfl) ?_
    refine lv_aload_n hx hb dX3_isSpent_3 rfl (lv_at hl 0 rfl) ?_
    refine w_gI (C := RX3) (T := TX3) (N := 6) (ci := 3) hx hb hts in3 hown hK hP 3 ho.1 ho rfl (by decide) (hts _ mf_X3_22) dX3_isSpent_4 ?_
    refine lv_topi (fun x4 ex4 => ?_)
    have hw := hw x4 ex4
    refine lv_icmp_ge (tgt := 33) hx hb dX3_isSpent_7 (by decide) (fun c7 => ?_) (fun c7 => ?_)
    · have hw := hw.1 c7
      refine lv_iconst (v := 0) hx hb dX3_isSpent_33 (by decide) ?_
      exact hret _ _ _ _ _ _ dX3_isSpent_34 (by decide) hw hP hS
    · have hw := hw.2 c7
      refine lv_aload_n hx hb dX3_isSpent_10 rfl (lv_at hl 0 rfl) ?_
      refine lv_iload_n hx hb dX3_isSpent_11 rfl (lv_at hl 2 rfl) ?_
      refine k_Q (As := [.int a2]) (rest := []) ⟨hx, hb, hml, hown, hts⟩ (t_X3_pieceAt l dC dI base cy o ho a2 v _ hw) (cwV 1 hts (gV ml_X3_38 mi_X3_pieceAt mx_X3_pieceAt mn_X3 mo_X3_pieceAt) rfl rfl rfl (by decide +kernel) ⟨by decide, by decide⟩) hK hP hS ho (by decide) rfl rfl hl.1 rfl (Nat.le_of_ble_eq_true rfl) dX3_isSpent_12 ⟨Nat.zero_le _, Nat.zero_le _⟩ (fun t12 v1 H locs hw hP hS => ?_)
      obtain ⟨ht12, hw⟩ := hw
      refine w_gR (C := RX4) (T := TX4) (N := 4) (ci := 4) hx hb hts in4 hown hK hP 1 ht12.1 ht12 rfl (by decide) (ch4_1 ht12).1 (hts _ mf_X3_55) dX3_isSpent_15 ?_
      refine lv_iload_n hx hb dX3_isSpent_18 rfl (lv_at hl 1 rfl) ?_
      refine k_I (As := [.int a1]) (rest := []) ⟨hx, hb, hml, hown, hts⟩ (t_X8_isSpent l dC dI base cy (t12 + 2) (ch4_1 ht12).2 a1 v1 _ hw) (cwV 1 hts (gV ml_X3_74 mi_X8_isSpent mx_X8_isSpent mn_X8 mo_X8_isSpent) rfl rfl rfl (by decide +kernel) ⟨by decide, by decide⟩) hK hP hS (ch4_1 ht12).2 (by decide) rfl rfl hl.1 rfl (Nat.le_of_ble_eq_true rfl) dX3_isSpent_19 ⟨Nat.zero_le _, Nat.zero_le _⟩ (fun x19 v2 H locs hw hP hS => ?_)
      refine lv_if_eq (tgt := 27) hx hb dX3_isSpent_22 (by decide) (fun c22 => ?_) (fun c22 => ?_)
      · have hw := hw.1 c22
        obtain ⟨x27, ex27⟩ : ∃ y : Int32, y = a2 + 1 := ⟨_, rfl⟩
        have hw := hw x27 ex27
        refine lv_iinc (v := x27) (lv' := [(2, .int x27), (0, .ref (base + o)), (1, .int a1)]) hx hb dX3_isSpent_27 hl (k := 2) rfl (by rw [ex27]; first | rfl | (rw [show Int32.ofInt (-1) = (-1 : Int32) from by decide])) (by decide) rfl (fun ls hl => ?_)
        refine lv_goto (tgt := 2) hx hb dX3_isSpent_30 (by decide) ?_
        exact ih a1 x27 v2 _ _ _ hw (lv_sub hl [1, 2, 0] rfl) hP hS
      · have hw := hw.2 c22
        refine lv_iconst (v := 1) hx hb dX3_isSpent_25 (by decide) ?_
        exact hret _ _ _ _ _ _ dX3_isSpent_26 (by decide) hw hP hS
def w_X3_isSpent (o : Nat) (p1 : Int32) (v : VV) (Q : Int32 → VV → Prop) : Prop :=
  ∃ fu : Nat, b_X3_isSpent_2 o p1 Q  fu p1 0 v
set_option maxHeartbeats 4000000 in
set_option maxRecDepth 100000 in
/-- TransportFour$Outbox.isSpent -/
theorem t_X3_isSpent (l : Launch) (dC : Nat → ClassId) (dI : Nat → Nat → Nat) (base : Nat) (cy : Nat → ClassId) (o : Nat) (ho : isO 3 o) (p1 : Int32) (v : VV) (Q : Int32 → VV → Prop) (hw : w_X3_isSpent o p1 v Q) : CI l yX3_isSpent (.code yX3_isSpent cX3_isSpent 3 (some .boolean) :: TB) { frames := 2, cells := 0, slots := 0, locals := 42 } dC dI base cy [.ref (base + o), .int p1] v Q := by
  refine Met.ofW (cc := cX3_isSpent) (maxL := 3) (ret := (some .boolean)) (by decide) rfl ?_
  intro p e s m args below meth c s₁ B hml hv
  obtain ⟨rfl, hP, hK⟩ := hv
  have hx := B.exec
  have hb := B.bytes
  have hr := B.returns
  have hts0 := atoms_spec (ws := (.code yX3_isSpent cX3_isSpent 3 (some .boolean) :: TB)) B.pre
  have hts : ∀ w ∈ TB, w.before ([.ref (base + o), .int p1]).toArray s = true := fun w h => hts0 w (List.mem_cons_of_mem _ h)
  have hown : s.vm.findClass RX3 = some m.cls := findClass_of_methodNamed B.named
  have hlocks := B.notSynchronized
  have hS : va_S (fun q => base ≤ q) s.heap s.heap [] := va_S.rf
  have hl := lv_entry ([.ref (base + o), .int p1]) (n := 3) (Nat.le_of_ble_eq_true rfl)
  rw [lg_entry_eq]
  generalize (lg_sl ([.ref (base + o), .int p1]) ++ List.replicate (3 - (lg_sl ([.ref (base + o), .int p1])).length) Slot.unset).toArray = ls at hl ⊢
  have hl : lv_has ls 3 [(0, .ref (base + o)), (1, .int p1)] := hl
  have hret : ∀ (pc : Nat) (x : Int32) (v : VV) (H : Heap) (locs : List Loc) (ls : Array Slot), decode cX3_isSpent pc = .ok (.ireturn, 1) → (x = 0 ∨ x = 1) → Q x v → va_P (dC, dI) vwCl (Wd base cy rf v 874) H → va_S (fun q => base ≤ q) s.heap H locs → W p l e { frames := 2, cells := 0, slots := 0, locals := 42 } s m ([.ref (base + o), .int p1]).toArray below meth c H locs 0 0 (MQ below (va_Qi Q (Hp dC dI base cy) (fun q => base ≤ q)) ([.ref (base + o), .int p1]).toArray s 0 0 (fun q => base ≤ q)) (F0 m pc ls [.int x]) := fun pc x v H locs ls hd hz hq hP hS => W.zret (v := x) hx hb hr (zb_n hz) (fun t ht hW => ⟨⟨x, v, rfl, hq, by rw [ht]; exact hP, va_K.moved hW.alike hK⟩, hS.F ht⟩) hS.2.2 hd
  refine lv_iconst (v := 0) hx hb dX3_isSpent_0 (by decide) ?_
  refine lv_istore_n (lv' := [(2, .int 0), (0, .ref (base + o)), (1, .int p1)]) hx hb dX3_isSpent_1 rfl hl (by decide) rfl (fun ls hl => ?_)
  obtain ⟨fu, hw⟩ := hw
  exact tb_X3_isSpent_2 hx hb hml hown hts hK o ho p1 _ hret  fu p1 0 v _ _ _ hw (lv_sub hl [1, 2, 0] rfl) hP hS
