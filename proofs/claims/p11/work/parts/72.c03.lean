def b_X0_sendPiece_58 (o : Nat) (p1 : Int32) (Q : VV → Prop) (fu : Nat) : Int32 → Nat → Int32 → Nat → Int32 → VV → Prop :=
  Nat.rec (motive := fun _ => Int32 → Nat → Int32 → Nat → Int32 → VV → Prop) (fun _ _ _ _ _ _ => False) (fun _ ih a1 a2 a3 a4 a5 v => ∀ x61 : Int32, x61 = v a2 2 → (x61 ≤ a5 → ∀ x93 : Int32, x93 = v 1 10 → w_X8_count (a2 + 2) x93 v (fun (v1 : VV) => ∀ x104 : Int32, x104 = v1 o 0 → w_X2_dispatch x104 v1 (fun (v2 : VV) => Q v2))) ∧ (¬ x61 ≤ a5 → vp_in a5 8 ∧ ∀ x75 : Int32, x75 = v (a2 + 1) (Int32.toNatClampNeg a5) → w_X5_add a4 x75 v (fun (v4 : VV) => ∀ x79 : Int32, x79 = a5 + 1 → ih a1 a2 a3 a4 x79 v4))) fu
set_option maxHeartbeats 4000000 in
set_option maxRecDepth 100000 in
theorem tb_X0_sendPiece_58 {p : Program} {l : Launch} {e : Env} {s : State} {m : MethodId} {args : Array Value} {below : List Frame} {meth : Method} {c : Code} {QQ : State → Prop} {dC : Nat → ClassId} {dI : Nat → Nat → Nat} {base : Nat} {cy : Nat → ClassId} (hx : p.tables.exec = Jvm.exec) (hb : c.code = cX0_sendPiece) (hml : c.maxLocals = 6) (hown : s.vm.findClass RX0 = some m.cls) (hts : ∀ w ∈ TB, w.before args s = true) (hK : va_K (dC, dI) vwCl (tyL cy) s) (o : Nat) (ho : isO 0 o) (p1 : Int32) (Q : VV → Prop) (hret : ∀ (pc : Nat) (v : VV) (H : Heap) (locs : List Loc) (ls : Array Slot), decode cX0_sendPiece pc = .ok (.return_, 1) → Q v → va_P (dC, dI) vwCl (Wd base cy rf v 874) H → va_S (fun q => base ≤ q) s.heap H locs → W p l e { frames := 2, cells := 0, slots := 0, locals := 48 } s m args below meth c H locs 0 0 QQ (F0 m pc ls [])) : ∀ (fu : Nat) (a1 : Int32) (a2 : Nat) (ha2 : isO 4 a2) (a3 : Int32) (a4 : Nat) (ha4 : isO 5 a4) (a5 : Int32) (v : VV) (H : Heap) (locs : List Loc) (ls : Array Slot), b_X0_sendPiece_58 o p1 Q  fu a1 a2 a3 a4 a5 v → lv_has ls 6 [(0, .ref (base + o)), (1, .int a1), (2, .ref (base + a2)), (3, .int a3), (4, .ref (base + a4)), (5, .int a5)] → va_P (dC, dI) vwCl (Wd base cy rf v 874) H → va_S (fun q => base ≤ q) s.heap H locs → W p l e { frames := 2, cells := 0, slots := 0, locals := 48 } s m args below meth c H locs 0 0 QQ (F0 m 58 ls []) := by
  intro fu
  induction fu with
  | zero =>
    intro a1 a2 ha2 a3 a4 ha4 a5 v H locs ls hw hl hP hS
    exact hw.elim
  | succ fu ih =>
    intro a1 a2 ha2 a3 a4 ha4 a5 v H locs ls hw hl hP hS
    refine lv_iload hx hb dX0_sendPiece_58 (lv_at hl 5 rfl) ?_
    refine lv_aload_n hx hb dX0_sendPiece_60 rfl (lv_at hl 2 rfl) ?_
    refine w_gI (C := RX4) (T := TX4) (N := 4) (ci := 4) hx hb hts in4 hown hK hP 2 ha2.1 ha2 rfl (by decide) (hts _ mf_X0_284) dX0_sendPiece_61 ?_
    refine lv_topi (fun x61 ex61 => ?_)
    have hw := hw x61 ex61
    refine lv_icmp_ge (tgt := 85) hx hb dX0_sendPiece_64 (by decide) (fun c64 => ?_) (fun c64 => ?_)
    · have hw := hw.1 c64
      refine lv_aload_n hx hb dX0_sendPiece_85 rfl (lv_at hl 2 rfl) ?_
      refine w_gR (C := RX4) (T := TX4) (N := 4) (ci := 4) hx hb hts in4 hown hK hP 1 ha2.1 ha2 rfl (by decide) (ch4_1 ha2).1 (hts _ mf_X0_241) dX0_sendPiece_86 ?_
      refine lv_aload_n hx hb dX0_sendPiece_89 rfl (lv_at hl 0 rfl) ?_
      refine w_gR (C := RX0) (T := TX0) (N := 15) (ci := 0) hx hb hts in0 hown hK hP 1 ho.1 ho rfl (by decide) (ch0_1 ho).1 (hts _ mf_X0_53) dX0_sendPiece_90 ?_
      refine w_gI (C := RX2) (T := TX2) (N := 11) (ci := 2) hx hb hts in2 hown hK hP 10 (ch0_1 ho).2.1 (ch0_1 ho).2 rfl (by decide) (hts _ mf_X0_88) dX0_sendPiece_93 ?_
      refine lv_topi (fun x93 ex93 => ?_)
      have hw := hw x93 ex93
      refine k_V (As := [.int x93]) (rest := []) ⟨hx, hb, hml, hown, hts⟩ (t_X8_count l dC dI base cy (a2 + 2) (ch4_1 ha2).2 x93 v _ hw) (cwV 1 hts (gV ml_X0_261 mi_X8_count mx_X8_count mn_X8 mo_X8_count) rfl rfl rfl (by decide +kernel) ⟨by decide, by decide⟩) hK hP hS (ch4_1 ha2).2 (by decide) rfl rfl hl.1 rfl (Nat.le_of_ble_eq_true rfl) dX0_sendPiece_96 ⟨Nat.zero_le _, Nat.zero_le _⟩ (fun v1 H locs hw hP hS => ?_)
      refine lv_aload_n hx hb dX0_sendPiece_99 rfl (lv_at hl 0 rfl) ?_
      refine w_gR (C := RX0) (T := TX0) (N := 15) (ci := 0) hx hb hts in0 hown hK hP 1 ho.1 ho rfl (by decide) (ch0_1 ho).1 (hts _ mf_X0_53) dX0_sendPiece_100 ?_
      refine lv_aload_n hx hb dX0_sendPiece_103 rfl (lv_at hl 0 rfl) ?_
      refine w_gI (C := RX0) (T := TX0) (N := 15) (ci := 0) hx hb hts in0 hown hK hP 0 ho.1 ho rfl (by decide) (hts _ mf_X0_50) dX0_sendPiece_104 ?_
      refine lv_topi (fun x104 ex104 => ?_)
      have hw := hw x104 ex104
      refine k_V (As := [.int x104]) (rest := []) ⟨hx, hb, hml, hown, hts⟩ (t_X2_dispatch l dC dI base cy x104 v1 _ hw) (cwV 1 hts (gV ml_X0_271 mi_X2_dispatch mx_X2_dispatch mn_X2 mo_X2_dispatch) rfl rfl rfl (by decide +kernel) ⟨by decide, by decide⟩) hK hP hS (ch0_1 ho).2 (by decide) rfl rfl hl.1 rfl (Nat.le_of_ble_eq_true rfl) dX0_sendPiece_107 ⟨Nat.zero_le _, Nat.zero_le _⟩ (fun v2 H locs hw hP hS => ?_)
      exact hret _ _ _ _ _ dX0_sendPiece_110 hw hP hS
    · have hw := hw.2 c64
      refine lv_aload hx hb dX0_sendPiece_67 (lv_at hl 4 rfl) ?_
      refine lv_aload_n hx hb dX0_sendPiece_69 rfl (lv_at hl 2 rfl) ?_
      refine w_gR (C := RX4) (T := TX4) (N := 4) (ci := 4) hx hb hts in4 hown hK hP 0 ha2.1 ha2 rfl (by decide) (ch4_0 ha2).1 (hts _ mf_X0_287) dX0_sendPiece_70 ?_
      refine lv_iload hx hb dX0_sendPiece_73 (lv_at hl 5 rfl) ?_
      obtain ⟨hi3, hw⟩ := hw
      refine w_ia (N := 8) hx hb hK hP (ch4_0 ha2).2.1.1 (ch4_0 ha2).2.1 (ch4_0 ha2).2.2 hi3 dX0_sendPiece_75 ?_
      refine lv_topi (fun x75 ex75 => ?_)
      have hw := hw x75 ex75
      refine k_V (As := [.int x75]) (rest := []) ⟨hx, hb, hml, hown, hts⟩ (t_X5_add l dC dI base cy a4 ha4 x75 v _ hw) (cwV 1 hts (gV ml_X0_288 mi_X5_add mx_X5_add mn_X5 mo_X5_add) rfl rfl rfl (by decide +kernel) ⟨by decide, by decide⟩) hK hP hS ha4 (by decide) rfl rfl hl.1 rfl (Nat.le_of_ble_eq_true rfl) dX0_sendPiece_76 ⟨Nat.zero_le _, Nat.zero_le _⟩ (fun v4 H locs hw hP hS => ?_)
      obtain ⟨x79, ex79⟩ : ∃ y : Int32, y = a5 + 1 := ⟨_, rfl⟩
      have hw := hw x79 ex79
      refine lv_iinc (v := x79) (lv' := [(5, .int x79), (0, .ref (base + o)), (1, .int a1), (2, .ref (base + a2)), (3, .int a3), (4, .ref (base + a4))]) hx hb dX0_sendPiece_79 hl (k := 5) rfl (by rw [ex79]; first | rfl | (rw [show Int32.ofInt (-1) = (-1 : Int32) from by decide])) (by decide) rfl (fun ls hl => ?_)
      refine lv_goto (tgt := 58) hx hb dX0_sendPiece_82 (by decide) ?_
      exact ih a1 a2 ha2 a3 a4 ha4 x79 v4 _ _ _ hw (lv_sub hl [1, 2, 3, 4, 5, 0] rfl) hP hS
def b_X0_sendPiece_52 (o : Nat) (p1 : Int32) (Q : VV → Prop) (a1 : Int32) (a2 : Nat) (a3 : Int32) (a4 : Nat) (s0 : Int32) (s1 : Int32) (s2 : Int32) (s3 : Nat) (v : VV) : Prop :=
  w_X5_writeNumbered s3 s2 s1 s0 v (fun (v1 : VV) => ∃ fu : Nat, b_X0_sendPiece_58 o p1 Q  fu a1 a2 a3 a4 0 v1)
set_option maxHeartbeats 4000000 in
set_option maxRecDepth 100000 in
theorem tb_X0_sendPiece_52 {p : Program} {l : Launch} {e : Env} {s : State} {m : MethodId} {args : Array Value} {below : List Frame} {meth : Method} {c : Code} {QQ : State → Prop} {dC : Nat → ClassId} {dI : Nat → Nat → Nat} {base : Nat} {cy : Nat → ClassId} (hx : p.tables.exec = Jvm.exec) (hb : c.code = cX0_sendPiece) (hml : c.maxLocals = 6) (hown : s.vm.findClass RX0 = some m.cls) (hts : ∀ w ∈ TB, w.before args s = true) (hK : va_K (dC, dI) vwCl (tyL cy) s) (o : Nat) (ho : isO 0 o) (p1 : Int32) (Q : VV → Prop) (hret : ∀ (pc : Nat) (v : VV) (H : Heap) (locs : List Loc) (ls : Array Slot), decode cX0_sendPiece pc = .ok (.return_, 1) → Q v → va_P (dC, dI) vwCl (Wd base cy rf v 874) H → va_S (fun q => base ≤ q) s.heap H locs → W p l e { frames := 2, cells := 0, slots := 0, locals := 48 } s m args below meth c H locs 0 0 QQ (F0 m pc ls [])) (a1 : Int32) (a2 : Nat) (ha2 : isO 4 a2) (a3 : Int32) (a4 : Nat) (ha4 : isO 5 a4) (s0 : Int32) (s1 : Int32) (s2 : Int32) (s3 : Nat) (hs3 : isO 5 s3) (v : VV) (H : Heap) (locs : List Loc) (ls : Array Slot) (hw : b_X0_sendPiece_52 o p1 Q  a1 a2 a3 a4 s0 s1 s2 s3 v) : lv_has ls 6 [(0, .ref (base + o)), (1, .int a1), (2, .ref (base + a2)), (3, .int a3), (4, .ref (base + a4))] → va_P (dC, dI) vwCl (Wd base cy rf v 874) H → va_S (fun q => base ≤ q) s.heap H locs → W p l e { frames := 2, cells := 0, slots := 0, locals := 48 } s m args below meth c H locs 0 0 QQ (F0 m 52 ls [.int s0, .int s1, .int s2, .ref (base + s3)]) := by
  intro hl hP hS
  refine k_V (As := [.int s2, .int s1, .int s0]) (rest := []) ⟨hx, hb, hml, hown, hts⟩ (t_X5_writeNumbered l dC dI base cy s3 hs3 s2 s1 s0 v _ hw) (cwV 3 hts (gV ml_X0_274 mi_X5_writeNumbered mx_X5_writeNumbered mn_X5 mo_X5_writeNumbered) rfl rfl rfl (by decide +kernel) ⟨by decide, by decide⟩) hK hP hS hs3 (by decide) rfl rfl hl.1 rfl (Nat.le_of_ble_eq_true rfl) dX0_sendPiece_52 ⟨Nat.zero_le _, Nat.zero_le _⟩ (fun v1 H locs hw hP hS => ?_)
  refine lv_iconst (v := 0) hx hb dX0_sendPiece_55 (by decide) ?_
  refine lv_istore (lv' := [(5, .int 0), (0, .ref (base + o)), (1, .int a1), (2, .ref (base + a2)), (3, .int a3), (4, .ref (base + a4))]) hx hb dX0_sendPiece_56 hl (by decide) rfl (fun ls hl => ?_)
  obtain ⟨fu, hw⟩ := hw
  exact tb_X0_sendPiece_58 hx hb hml hown hts hK o ho p1 _ hret  fu a1 a2 ha2 a3 a4 ha4 0 v1 _ _ _ hw (lv_sub hl [1, 2, 3, 4, 5, 0] rfl) hP hS
def w_X0_sendPiece (o : Nat) (p1 : Int32) (v : VV) (Q : VV → Prop) : Prop :=
  w_X3_pieceAt (o + 1) p1 v (fun (t5 : Nat) (v1 : VV) => isO 4 t5 ∧ w_X3_numberAt (o + 1) p1 v1 (fun (x14 : Int32) (v2 : VV) => w_X2_nextUnit  v2 (fun (t22 : Nat) (v3 : VV) => isO 5 t22 ∧ ∀ x33 : Int32, x33 = v3 o 10 → ∀ x37 : Int32, x37 = v3 t5 3 → (x37 = 0 → b_X0_sendPiece_52 o p1 Q  p1 t5 x14 t22 x14 x33 240 t22 v3) ∧ (¬ x37 = 0 → ∀ x47 : Int32, x47 = x14 ||| 128 → b_X0_sendPiece_52 o p1 Q  p1 t5 x14 t22 x47 x33 240 t22 v3))))
set_option maxHeartbeats 4000000 in
set_option maxRecDepth 100000 in
/-- TransportFour$End.sendPiece -/
theorem t_X0_sendPiece (l : Launch) (dC : Nat → ClassId) (dI : Nat → Nat → Nat) (base : Nat) (cy : Nat → ClassId) (o : Nat) (ho : isO 0 o) (p1 : Int32) (v : VV) (Q : VV → Prop) (hw : w_X0_sendPiece o p1 v Q) : CV l yX0_sendPiece (.code yX0_sendPiece cX0_sendPiece 6 none :: TB) { frames := 2, cells := 0, slots := 0, locals := 48 } dC dI base cy [.ref (base + o), .int p1] v Q := by
  refine Met.ofW (cc := cX0_sendPiece) (maxL := 6) (ret := none) (by decide) rfl ?_
  intro p e s m args below meth c s₁ B hml hv
  obtain ⟨rfl, hP, hK⟩ := hv
  have hx := B.exec
  have hb := B.bytes
  have hr := B.returns
  have hts0 := atoms_spec (ws := (.code yX0_sendPiece cX0_sendPiece 6 none :: TB)) B.pre
  have hts : ∀ w ∈ TB, w.before ([.ref (base + o), .int p1]).toArray s = true := fun w h => hts0 w (List.mem_cons_of_mem _ h)
  have hown : s.vm.findClass RX0 = some m.cls := findClass_of_methodNamed B.named
  have hlocks := B.notSynchronized
  have hS : va_S (fun q => base ≤ q) s.heap s.heap [] := va_S.rf
  have hl := lv_entry ([.ref (base + o), .int p1]) (n := 6) (Nat.le_of_ble_eq_true rfl)
  rw [lg_entry_eq]
  generalize (lg_sl ([.ref (base + o), .int p1]) ++ List.replicate (6 - (lg_sl ([.ref (base + o), .int p1])).length) Slot.unset).toArray = ls at hl ⊢
  have hl : lv_has ls 6 [(0, .ref (base + o)), (1, .int p1)] := hl
  have hret : ∀ (pc : Nat) (v : VV) (H : Heap) (locs : List Loc) (ls : Array Slot), decode cX0_sendPiece pc = .ok (.return_, 1) → Q v → va_P (dC, dI) vwCl (Wd base cy rf v 874) H → va_S (fun q => base ≤ q) s.heap H locs → W p l e { frames := 2, cells := 0, slots := 0, locals := 48 } s m ([.ref (base + o), .int p1]).toArray below meth c H locs 0 0 (MQ below (va_Qv Q (Hp dC dI base cy) (fun q => base ≤ q)) ([.ref (base + o), .int p1]).toArray s 0 0 (fun q => base ≤ q)) (F0 m pc ls []) := fun pc v H locs ls hd hq hP hS => W.vret hx hb hr (fun t ht hW => ⟨⟨v, rfl, hq, by rw [ht]; exact hP, va_K.moved hW.alike hK⟩, hS.F ht⟩) hS.2.2 hd
  refine lv_aload_n hx hb dX0_sendPiece_0 rfl (lv_at hl 0 rfl) ?_
  refine w_gR (C := RX0) (T := TX0) (N := 15) (ci := 0) hx hb hts in0 hown hK hP 2 ho.1 ho rfl (by decide) (ch0_2 ho).1 (hts _ mf_X0_12) dX0_sendPiece_1 ?_
  refine lv_iload_n hx hb dX0_sendPiece_4 rfl (lv_at hl 1 rfl) ?_
  refine k_Q (As := [.int p1]) (rest := []) ⟨hx, hb, hml, hown, hts⟩ (t_X3_pieceAt l dC dI base cy (o + 1) (ch0_2 ho).2 p1 v _ hw) (cwV 1 hts (gV ml_X0_237 mi_X3_pieceAt mx_X3_pieceAt mn_X3 mo_X3_pieceAt) rfl rfl rfl (by decide +kernel) ⟨by decide, by decide⟩) hK hP hS (ch0_2 ho).2 (by decide) rfl rfl hl.1 rfl (Nat.le_of_ble_eq_true rfl) dX0_sendPiece_5 ⟨Nat.zero_le _, Nat.zero_le _⟩ (fun t5 v1 H locs hw hP hS => ?_)
  obtain ⟨ht5, hw⟩ := hw
  refine lv_astore_n (lv' := [(2, .ref (base + t5)), (0, .ref (base + o)), (1, .int p1)]) hx hb dX0_sendPiece_8 rfl hl (by decide) rfl (fun ls hl => ?_)
  refine lv_aload_n hx hb dX0_sendPiece_9 rfl (lv_at hl 1 rfl) ?_
  refine w_gR (C := RX0) (T := TX0) (N := 15) (ci := 0) hx hb hts in0 hown hK hP 2 ho.1 ho rfl (by decide) (ch0_2 ho).1 (hts _ mf_X0_12) dX0_sendPiece_10 ?_
  refine lv_iload_n hx hb dX0_sendPiece_13 rfl (lv_at hl 2 rfl) ?_
  refine k_I (As := [.int p1]) (rest := []) ⟨hx, hb, hml, hown, hts⟩ (t_X3_numberAt l dC dI base cy (o + 1) (ch0_2 ho).2 p1 v1 _ hw) (cwV 1 hts (gV ml_X0_137 mi_X3_numberAt mx_X3_numberAt mn_X3 mo_X3_numberAt) rfl rfl rfl (by decide +kernel) ⟨by decide, by decide⟩) hK hP hS (ch0_2 ho).2 (by decide) rfl rfl hl.1 rfl (Nat.le_of_ble_eq_true rfl) dX0_sendPiece_14 ⟨Nat.zero_le _, Nat.zero_le _⟩ (fun x14 v2 H locs hw hP hS => ?_)
  refine lv_istore_n (lv' := [(3, .int x14), (2, .ref (base + t5)), (0, .ref (base + o)), (1, .int p1)]) hx hb dX0_sendPiece_17 rfl hl (by decide) rfl (fun ls hl => ?_)
  refine lv_aload_n hx hb dX0_sendPiece_18 rfl (lv_at hl 2 rfl) ?_
  refine w_gR (C := RX0) (T := TX0) (N := 15) (ci := 0) hx hb hts in0 hown hK hP 1 ho.1 ho rfl (by decide) (ch0_1 ho).1 (hts _ mf_X0_53) dX0_sendPiece_19 ?_
  refine k_Q (As := []) (rest := []) ⟨hx, hb, hml, hown, hts⟩ (t_X2_nextUnit l dC dI base cy  v2 _ hw) (cwV 0 hts (gV ml_X0_264 mi_X2_nextUnit mx_X2_nextUnit mn_X2 mo_X2_nextUnit) rfl rfl rfl (by decide +kernel) ⟨by decide, by decide⟩) hK hP hS (ch0_1 ho).2 (by decide) rfl rfl hl.1 rfl (Nat.le_of_ble_eq_true rfl) dX0_sendPiece_22 ⟨Nat.zero_le _, Nat.zero_le _⟩ (fun t22 v3 H locs hw hP hS => ?_)
  obtain ⟨ht22, hw⟩ := hw
  refine lv_astore (lv' := [(4, .ref (base + t22)), (3, .int x14), (2, .ref (base + t5)), (0, .ref (base + o)), (1, .int p1)]) hx hb dX0_sendPiece_25 hl (by decide) rfl (fun ls hl => ?_)
  refine lv_aload hx hb dX0_sendPiece_27 (lv_at hl 0 rfl) ?_
  refine lv_sipush (v := 240) hx hb dX0_sendPiece_29 (by decide) ?_
  refine lv_aload_n hx hb dX0_sendPiece_32 rfl (lv_at hl 3 rfl) ?_
  refine w_gI (C := RX0) (T := TX0) (N := 15) (ci := 0) hx hb hts in0 hown hK hP 10 ho.1 ho rfl (by decide) (hts _ mf_X0_81) dX0_sendPiece_33 ?_
  refine lv_topi (fun x33 ex33 => ?_)
  have hw := hw x33 ex33
  refine lv_aload_n hx hb dX0_sendPiece_36 rfl (lv_at hl 2 rfl) ?_
  refine w_gI (C := RX4) (T := TX4) (N := 4) (ci := 4) hx hb hts in4 hown hK hP 3 ht5.1 ht5 rfl (by decide) (hts _ mf_X0_281) dX0_sendPiece_37 ?_
  refine lv_topi (fun x37 ex37 => ?_)
  have hw := hw x37 ex37
  refine lv_if_eq (tgt := 51) hx hb dX0_sendPiece_40 (by decide) (fun c40 => ?_) (fun c40 => ?_)
  · have hw := hw.1 c40
    refine lv_iload_n hx hb dX0_sendPiece_51 rfl (lv_at hl 1 rfl) ?_
    exact tb_X0_sendPiece_52 hx hb hml hown hts hK o ho p1 _ hret  p1 t5 ht5 x14 t22 ht22 x14 x33 240 t22 ht22 v3 _ _ _ hw (lv_sub hl [3, 4, 2, 1, 0] rfl) hP hS
  · have hw := hw.2 c40
    refine lv_iload_n hx hb dX0_sendPiece_43 rfl (lv_at hl 1 rfl) ?_
    refine lv_sipush (v := 128) hx hb dX0_sendPiece_44 (by decide) ?_
    refine lv_ior hx hb dX0_sendPiece_47 ?_
    refine lv_topi (fun x47 ex47 => ?_)
    have hw := hw x47 ex47
    refine lv_goto (tgt := 52) hx hb dX0_sendPiece_48 (by decide) ?_
    exact tb_X0_sendPiece_52 hx hb hml hown hts hK o ho p1 _ hret  p1 t5 ht5 x14 t22 ht22 x47 x33 240 t22 ht22 v3 _ _ _ hw (lv_sub hl [3, 4, 2, 1, 0] rfl) hP hS
def b_X0_sendNewData_2 (o : Nat) (Q : VV → Prop) (fu : Nat) : Int32 → VV → Prop :=
  Nat.rec (motive := fun _ => Int32 → VV → Prop) (fun _ _ => False) (fun _ ih a1 v => (40 ≤ a1 → Q v) ∧ (¬ 40 ≤ a1 → w_X3_maySendNext (o + 1) v (fun (x12 : Int32) (v1 : VV) => (x12 = 0 → Q v1) ∧ (¬ x12 = 0 → ∀ x23 : Int32, x23 = v1 (o + 1) 3 → w_X0_sendPiece o x23 v1 (fun (v2 : VV) => ∀ x34 : Int32, x34 = v2 (o + 1) 3 → ∀ x38 : Int32, x38 = x34 + 1 → ∀ v3 : VV, v3 = up2 v2 (o + 1) 3 x38 → ∀ x42 : Int32, x42 = a1 + 1 → ih x42 v3))))) fu
set_option maxHeartbeats 4000000 in
set_option maxRecDepth 100000 in
theorem tb_X0_sendNewData_2 {p : Program} {l : Launch} {e : Env} {s : State} {m : MethodId} {args : Array Value} {below : List Frame} {meth : Method} {c : Code} {QQ : State → Prop} {dC : Nat → ClassId} {dI : Nat → Nat → Nat} {base : Nat} {cy : Nat → ClassId} (hx : p.tables.exec = Jvm.exec) (hb : c.code = cX0_sendNewData) (hml : c.maxLocals = 2) (hown : s.vm.findClass RX0 = some m.cls) (hts : ∀ w ∈ TB, w.before args s = true) (hK : va_K (dC, dI) vwCl (tyL cy) s) (o : Nat) (ho : isO 0 o) (Q : VV → Prop) (hret : ∀ (pc : Nat) (v : VV) (H : Heap) (locs : List Loc) (ls : Array Slot), decode cX0_sendNewData pc = .ok (.return_, 1) → Q v → va_P (dC, dI) vwCl (Wd base cy rf v 874) H → va_S (fun q => base ≤ q) s.heap H locs → W p l e { frames := 3, cells := 0, slots := 0, locals := 73 } s m args below meth c H locs 0 0 QQ (F0 m pc ls [])) : ∀ (fu : Nat) (a1 : Int32) (v : VV) (H : Heap) (locs : List Loc) (ls : Array Slot), b_X0_sendNewData_2 o Q  fu a1 v → lv_has ls 2 [(0, .ref (base + o)), (1, .int a1)] → va_P (dC, dI) vwCl (Wd base cy rf v 874) H → va_S (fun q => base ≤ q) s.heap H locs → W p l e { frames := 3, cells := 0, slots := 0, locals := 73 } s m args below meth c H locs 0 0 QQ (F0 m 2 ls []) := by
  intro fu
  induction fu with
  | zero =>
    intro a1 v H locs ls hw hl hP hS
    exact hw.elim
  | succ fu ih =>
    intro a1 v H locs ls hw hl hP hS
    refine lv_iload_n hx hb dX0_sendNewData_2 rfl (lv_at hl 1 rfl) ?_
    refine lv_bipush (v := 40) hx hb dX0_sendNewData_3 (by decide) ?_
    refine lv_icmp_ge (tgt := 48) hx hb dX0_sendNewData_5 (by decide) (fun c5 => ?_) (fun c5 => ?_)
    · have hw := hw.1 c5
      exact hret _ _ _ _ _ dX0_sendNewData_48 hw hP hS
    · have hw := hw.2 c5
      refine lv_aload_n hx hb dX0_sendNewData_8 rfl (lv_at hl 0 rfl) ?_
      refine w_gR (C := RX0) (T := TX0) (N := 15) (ci := 0) hx hb hts in0 hown hK hP 2 ho.1 ho rfl (by decide) (ch0_2 ho).1 (hts _ mf_X0_12) dX0_sendNewData_9 ?_
      refine k_I (As := []) (rest := []) ⟨hx, hb, hml, hown, hts⟩ (t_X3_maySendNext l dC dI base cy (o + 1) (ch0_2 ho).2 v _ hw) (cwV 0 hts (gV ml_X0_278 mi_X3_maySendNext mx_X3_maySendNext mn_X3 mo_X3_maySendNext) rfl rfl rfl (by decide +kernel) ⟨by decide, by decide⟩) hK hP hS (ch0_2 ho).2 (by decide) rfl rfl hl.1 rfl (Nat.le_of_ble_eq_true rfl) dX0_sendNewData_12 ⟨Nat.zero_le _, Nat.zero_le _⟩ (fun x12 v1 H locs hw hP hS => ?_)
      refine lv_if_eq (tgt := 48) hx hb dX0_sendNewData_15 (by decide) (fun c15 => ?_) (fun c15 => ?_)
      · have hw := hw.1 c15
        exact hret _ _ _ _ _ dX0_sendNewData_48 hw hP hS
      · have hw := hw.2 c15
        refine lv_aload_n hx hb dX0_sendNewData_18 rfl (lv_at hl 0 rfl) ?_
        refine lv_aload_n hx hb dX0_sendNewData_19 rfl (lv_at hl 0 rfl) ?_
        refine w_gR (C := RX0) (T := TX0) (N := 15) (ci := 0) hx hb hts in0 hown hK hP 2 ho.1 ho rfl (by decide) (ch0_2 ho).1 (hts _ mf_X0_12) dX0_sendNewData_20 ?_
        refine w_gI (C := RX3) (T := TX3) (N := 6) (ci := 3) hx hb hts in3 hown hK hP 3 (ch0_2 ho).2.1 (ch0_2 ho).2 rfl (by decide) (hts _ mf_X0_134) dX0_sendNewData_23 ?_
        refine lv_topi (fun x23 ex23 => ?_)
        have hw := hw x23 ex23
        refine k_V (As := [.int x23]) (rest := []) ⟨hx, hb, hml, hown, hts⟩ (t_X0_sendPiece l dC dI base cy o ho x23 v1 _ hw) (cwV 1 hts (gV ml_X0_246 mi_X0_sendPiece mx_X0_sendPiece mn_X0 mo_X0_sendPiece) rfl rfl rfl (by decide +kernel) ⟨by decide, by decide⟩) hK hP hS ho (by decide) rfl rfl hl.1 rfl (Nat.le_of_ble_eq_true rfl) dX0_sendNewData_26 ⟨Nat.zero_le _, Nat.zero_le _⟩ (fun v2 H locs hw hP hS => ?_)
        refine lv_aload_n hx hb dX0_sendNewData_29 rfl (lv_at hl 0 rfl) ?_
        refine w_gR (C := RX0) (T := TX0) (N := 15) (ci := 0) hx hb hts in0 hown hK hP 2 ho.1 ho rfl (by decide) (ch0_2 ho).1 (hts _ mf_X0_12) dX0_sendNewData_30 ?_
        refine lv_dup hx hb dX0_sendNewData_33 rfl ?_
        refine w_gI (C := RX3) (T := TX3) (N := 6) (ci := 3) hx hb hts in3 hown hK hP 3 (ch0_2 ho).2.1 (ch0_2 ho).2 rfl (by decide) (hts _ mf_X0_134) dX0_sendNewData_34 ?_
        refine lv_topi (fun x34 ex34 => ?_)
        have hw := hw x34 ex34
        refine lv_iconst (v := 1) hx hb dX0_sendNewData_37 (by decide) ?_
        refine lv_iadd hx hb dX0_sendNewData_38 ?_
        refine lv_topi (fun x38 ex38 => ?_)
        have hw := hw x38 ex38
        refine w_pI (C := RX3) (T := TX3) (N := 6) (ci := 3) hx hb hts in3 tyX3 tyX3_ok nmX3 hown hK hP hS 3 (ch0_2 ho).2.1 (ch0_2 ho).2 rfl (by decide) (hts _ mf_X0_134) rfl (ty := .int) (by decide +kernel) rfl rfl dX0_sendNewData_39 (fun v3 H locs hv3 hP hz hS => ?_)
        have hw := hw v3 hv3
        obtain ⟨x42, ex42⟩ : ∃ y : Int32, y = a1 + 1 := ⟨_, rfl⟩
        have hw := hw x42 ex42
        refine lv_iinc (v := x42) (lv' := [(1, .int x42), (0, .ref (base + o))]) hx hb dX0_sendNewData_42 hl (k := 1) rfl (by rw [ex42]; first | rfl | (rw [show Int32.ofInt (-1) = (-1 : Int32) from by decide])) (by decide) rfl (fun ls hl => ?_)
        refine lv_goto (tgt := 2) hx hb dX0_sendNewData_45 (by decide) ?_
        exact ih x42 v3 _ _ _ hw (lv_sub hl [1, 0] rfl) hP hS
def w_X0_sendNewData (o : Nat) (v : VV) (Q : VV → Prop) : Prop :=
  ∃ fu : Nat, b_X0_sendNewData_2 o Q  fu 0 v
set_option maxHeartbeats 4000000 in
set_option maxRecDepth 100000 in
/-- TransportFour$End.sendNewData -/
theorem t_X0_sendNewData (l : Launch) (dC : Nat → ClassId) (dI : Nat → Nat → Nat) (base : Nat) (cy : Nat → ClassId) (o : Nat) (ho : isO 0 o) (v : VV) (Q : VV → Prop) (hw : w_X0_sendNewData o v Q) : CV l yX0_sendNewData (.code yX0_sendNewData cX0_sendNewData 2 none :: TB) { frames := 3, cells := 0, slots := 0, locals := 73 } dC dI base cy [.ref (base + o)] v Q := by
  refine Met.ofW (cc := cX0_sendNewData) (maxL := 2) (ret := none) (by decide) rfl ?_
  intro p e s m args below meth c s₁ B hml hv
  obtain ⟨rfl, hP, hK⟩ := hv
  have hx := B.exec
  have hb := B.bytes
  have hr := B.returns
  have hts0 := atoms_spec (ws := (.code yX0_sendNewData cX0_sendNewData 2 none :: TB)) B.pre
  have hts : ∀ w ∈ TB, w.before ([.ref (base + o)]).toArray s = true := fun w h => hts0 w (List.mem_cons_of_mem _ h)
  have hown : s.vm.findClass RX0 = some m.cls := findClass_of_methodNamed B.named
  have hlocks := B.notSynchronized
  have hS : va_S (fun q => base ≤ q) s.heap s.heap [] := va_S.rf
  have hl := lv_entry ([.ref (base + o)]) (n := 2) (Nat.le_of_ble_eq_true rfl)
  rw [lg_entry_eq]
  generalize (lg_sl ([.ref (base + o)]) ++ List.replicate (2 - (lg_sl ([.ref (base + o)])).length) Slot.unset).toArray = ls at hl ⊢
  have hl : lv_has ls 2 [(0, .ref (base + o))] := hl
  have hret : ∀ (pc : Nat) (v : VV) (H : Heap) (locs : List Loc) (ls : Array Slot), decode cX0_sendNewData pc = .ok (.return_, 1) → Q v → va_P (dC, dI) vwCl (Wd base cy rf v 874) H → va_S (fun q => base ≤ q) s.heap H locs → W p l e { frames := 3, cells := 0, slots := 0, locals := 73 } s m ([.ref (base + o)]).toArray below meth c H locs 0 0 (MQ below (va_Qv Q (Hp dC dI base cy) (fun q => base ≤ q)) ([.ref (base + o)]).toArray s 0 0 (fun q => base ≤ q)) (F0 m pc ls []) := fun pc v H locs ls hd hq hP hS => W.vret hx hb hr (fun t ht hW => ⟨⟨v, rfl, hq, by rw [ht]; exact hP, va_K.moved hW.alike hK⟩, hS.F ht⟩) hS.2.2 hd
  refine lv_iconst (v := 0) hx hb dX0_sendNewData_0 (by decide) ?_
  refine lv_istore_n (lv' := [(1, .int 0), (0, .ref (base + o))]) hx hb dX0_sendNewData_1 rfl hl (by decide) rfl (fun ls hl => ?_)
  obtain ⟨fu, hw⟩ := hw
  exact tb_X0_sendNewData_2 hx hb hml hown hts hK o ho _ hret  fu 0 v _ _ _ hw (lv_sub hl [1, 0] rfl) hP hS
def w_X0_sendMessage (o : Nat) (p2 : Int32) (v : VV) (Q : Int32 → VV → Prop) : Prop :=
  ∀ x1 : Int32, x1 = v o 8 → (x1 = 2 → w_X3_hasRoomFor (o + 1) p2 v (fun (x16 : Int32) (v1 : VV) => (¬ x16 = 0 → w_X3_addMessage (o + 1) p2 v1 (fun (v2 : VV) => w_X0_sendNewData o v2 (fun (v3 : VV) => ∀ x42 : Int32, x42 = v3 (o + 1) 2 → Q x42 v3))) ∧ (x16 = 0 → Q ((-3)) v1))) ∧ (¬ x1 = 2 → Q ((-2)) v)
set_option maxHeartbeats 4000000 in
set_option maxRecDepth 100000 in
/-- TransportFour$End.sendMessage -/
theorem t_X0_sendMessage (l : Launch) (dC : Nat → ClassId) (dI : Nat → Nat → Nat) (base : Nat) (cy : Nat → ClassId) (o : Nat) (ho : isO 0 o) (p2 : Int32) (v : VV) (Q : Int32 → VV → Prop) (hw : w_X0_sendMessage o p2 v Q) : CI l yX0_sendMessage (.code yX0_sendMessage cX0_sendMessage 3 (some .int) :: TB) { frames := 4, cells := 0, slots := 0, locals := 94 } dC dI base cy [.ref (base + o), .ref (base + 815), .int p2] v Q := by
  refine Met.ofW (cc := cX0_sendMessage) (maxL := 3) (ret := (some .int)) (by decide) rfl ?_
  intro p e s m args below meth c s₁ B hml hv
  obtain ⟨rfl, hP, hK⟩ := hv
  have hx := B.exec
  have hb := B.bytes
  have hr := B.returns
  have hts0 := atoms_spec (ws := (.code yX0_sendMessage cX0_sendMessage 3 (some .int) :: TB)) B.pre
  have hts : ∀ w ∈ TB, w.before ([.ref (base + o), .ref (base + 815), .int p2]).toArray s = true := fun w h => hts0 w (List.mem_cons_of_mem _ h)
  have hown : s.vm.findClass RX0 = some m.cls := findClass_of_methodNamed B.named
  have hlocks := B.notSynchronized
  have hS : va_S (fun q => base ≤ q) s.heap s.heap [] := va_S.rf
  have hl := lv_entry ([.ref (base + o), .ref (base + 815), .int p2]) (n := 3) (Nat.le_of_ble_eq_true rfl)
  rw [lg_entry_eq]
  generalize (lg_sl ([.ref (base + o), .ref (base + 815), .int p2]) ++ List.replicate (3 - (lg_sl ([.ref (base + o), .ref (base + 815), .int p2])).length) Slot.unset).toArray = ls at hl ⊢
  have hl : lv_has ls 3 [(0, .ref (base + o)), (1, .ref (base + 815)), (2, .int p2)] := hl
  have hret : ∀ (pc : Nat) (x : Int32) (v : VV) (H : Heap) (locs : List Loc) (ls : Array Slot), decode cX0_sendMessage pc = .ok (.ireturn, 1) → Q x v → va_P (dC, dI) vwCl (Wd base cy rf v 874) H → va_S (fun q => base ≤ q) s.heap H locs → W p l e { frames := 4, cells := 0, slots := 0, locals := 94 } s m ([.ref (base + o), .ref (base + 815), .int p2]).toArray below meth c H locs 0 0 (MQ below (va_Qi Q (Hp dC dI base cy) (fun q => base ≤ q)) ([.ref (base + o), .ref (base + 815), .int p2]).toArray s 0 0 (fun q => base ≤ q)) (F0 m pc ls [.int x]) := fun pc x v H locs ls hd hq hP hS => W.iret (v := x) hx hb hr (fun t ht hW => ⟨⟨x, v, rfl, hq, by rw [ht]; exact hP, va_K.moved hW.alike hK⟩, hS.F ht⟩) hS.2.2 hd
  refine lv_aload_n hx hb dX0_sendMessage_0 rfl (lv_at hl 0 rfl) ?_
  refine w_gI (C := RX0) (T := TX0) (N := 15) (ci := 0) hx hb hts in0 hown hK hP 8 ho.1 ho rfl (by decide) (hts _ mf_X0_57) dX0_sendMessage_1 ?_
  refine lv_topi (fun x1 ex1 => ?_)
  have hw := hw x1 ex1
  refine lv_iconst (v := 2) hx hb dX0_sendMessage_4 (by decide) ?_
  refine lv_icmp_eq (tgt := 11) hx hb dX0_sendMessage_5 (by decide) (fun c5 => ?_) (fun c5 => ?_)
  · have hw := hw.1 c5
    refine lv_aload_n hx hb dX0_sendMessage_11 rfl (lv_at hl 0 rfl) ?_
    refine w_gR (C := RX0) (T := TX0) (N := 15) (ci := 0) hx hb hts in0 hown hK hP 2 ho.1 ho rfl (by decide) (ch0_2 ho).1 (hts _ mf_X0_12) dX0_sendMessage_12 ?_
    refine lv_iload_n hx hb dX0_sendMessage_15 rfl (lv_at hl 2 rfl) ?_
    refine k_I (As := [.int p2]) (rest := []) ⟨hx, hb, hml, hown, hts⟩ (t_X3_hasRoomFor l dC dI base cy (o + 1) (ch0_2 ho).2 p2 v _ hw) (cwV 1 hts (gV ml_X0_96 mi_X3_hasRoomFor mx_X3_hasRoomFor mn_X3 mo_X3_hasRoomFor) rfl rfl rfl (by decide +kernel) ⟨by decide, by decide⟩) hK hP hS (ch0_2 ho).2 (by decide) rfl rfl hl.1 rfl (Nat.le_of_ble_eq_true rfl) dX0_sendMessage_16 ⟨Nat.zero_le _, Nat.zero_le _⟩ (fun x16 v1 H locs hw hP hS => ?_)
    refine lv_if_ne (tgt := 25) hx hb dX0_sendMessage_19 (by decide) (fun c19 => ?_) (fun c19 => ?_)
    · have hw := hw.1 c19
      refine lv_aload_n hx hb dX0_sendMessage_25 rfl (lv_at hl 0 rfl) ?_
      refine w_gR (C := RX0) (T := TX0) (N := 15) (ci := 0) hx hb hts in0 hown hK hP 2 ho.1 ho rfl (by decide) (ch0_2 ho).1 (hts _ mf_X0_12) dX0_sendMessage_26 ?_
      refine lv_aload_n hx hb dX0_sendMessage_29 rfl (lv_at hl 1 rfl) ?_
      refine lv_iload_n hx hb dX0_sendMessage_30 rfl (lv_at hl 2 rfl) ?_
      refine k_V (As := [.ref (base + 815), .int p2]) (rest := []) ⟨hx, hb, hml, hown, hts⟩ (t_X3_addMessage l dC dI base cy (o + 1) (ch0_2 ho).2 p2 v1 _ hw) (cwV 2 hts (gV ml_X0_100 mi_X3_addMessage mx_X3_addMessage mn_X3 mo_X3_addMessage) rfl rfl rfl (by decide +kernel) ⟨by decide, by decide⟩) hK hP hS (ch0_2 ho).2 (by decide) rfl rfl hl.1 rfl (Nat.le_of_ble_eq_true rfl) dX0_sendMessage_31 ⟨Nat.zero_le _, Nat.zero_le _⟩ (fun v2 H locs hw hP hS => ?_)
      refine lv_aload_n hx hb dX0_sendMessage_34 rfl (lv_at hl 0 rfl) ?_
      refine k_V (As := []) (rest := []) ⟨hx, hb, hml, hown, hts⟩ (t_X0_sendNewData l dC dI base cy o ho v2 _ hw) (cwV 0 hts (gV ml_X0_104 mi_X0_sendNewData mx_X0_sendNewData mn_X0 mo_X0_sendNewData) rfl rfl rfl (by decide +kernel) ⟨by decide, by decide⟩) hK hP hS ho (by decide) rfl rfl hl.1 rfl (Nat.le_of_ble_eq_true rfl) dX0_sendMessage_35 ⟨Nat.zero_le _, Nat.zero_le _⟩ (fun v3 H locs hw hP hS => ?_)
      refine lv_aload_n hx hb dX0_sendMessage_38 rfl (lv_at hl 0 rfl) ?_
      refine w_gR (C := RX0) (T := TX0) (N := 15) (ci := 0) hx hb hts in0 hown hK hP 2 ho.1 ho rfl (by decide) (ch0_2 ho).1 (hts _ mf_X0_12) dX0_sendMessage_39 ?_
      refine w_gI (C := RX3) (T := TX3) (N := 6) (ci := 3) hx hb hts in3 hown hK hP 2 (ch0_2 ho).2.1 (ch0_2 ho).2 rfl (by decide) (hts _ mf_X0_107) dX0_sendMessage_42 ?_
      refine lv_topi (fun x42 ex42 => ?_)
      have hw := hw x42 ex42
      exact hret _ _ _ _ _ _ dX0_sendMessage_45 hw hP hS
    · have hw := hw.2 c19
      refine lv_bipush (v := -3) hx hb dX0_sendMessage_22 (by decide) ?_
      exact hret _ _ _ _ _ _ dX0_sendMessage_24 hw hP hS
  · have hw := hw.2 c5
    refine lv_bipush (v := -2) hx hb dX0_sendMessage_8 (by decide) ?_
    exact hret _ _ _ _ _ _ dX0_sendMessage_10 hw hP hS
def b_X9_send_36 (p1 : Int32) (Q : Int32 → VV → Prop) (a1 : Int32) (a2 : Int32) (v : VV) : Prop :=
  Q a2 v
set_option maxHeartbeats 4000000 in
set_option maxRecDepth 100000 in
theorem tb_X9_send_36 {p : Program} {l : Launch} {e : Env} {s : State} {m : MethodId} {args : Array Value} {below : List Frame} {meth : Method} {c : Code} {QQ : State → Prop} {dC : Nat → ClassId} {dI : Nat → Nat → Nat} {base : Nat} {cy : Nat → ClassId} (hx : p.tables.exec = Jvm.exec) (hb : c.code = cX9_send) (hml : c.maxLocals = 3) (hown : s.vm.findClass RX9 = some m.cls) (hts : ∀ w ∈ TB, w.before args s = true) (hK : va_K (dC, dI) vwCl (tyL cy) s) (p1 : Int32) (Q : Int32 → VV → Prop) (hret : ∀ (pc : Nat) (x : Int32) (v : VV) (H : Heap) (locs : List Loc) (ls : Array Slot), decode cX9_send pc = .ok (.ireturn, 1) → Q x v → va_P (dC, dI) vwCl (Wd base cy rf v 874) H → va_S (fun q => base ≤ q) s.heap H locs → W p l e { frames := 5, cells := 0, slots := 0, locals := 116 } s m args below meth c H locs 0 0 QQ (F0 m pc ls [.int x])) (a1 : Int32) (a2 : Int32) (v : VV) (H : Heap) (locs : List Loc) (ls : Array Slot) (hw : b_X9_send_36 p1 Q  a1 a2 v) : lv_has ls 3 [(0, .ref (base + 0)), (1, .int a1), (2, .int a2)] → va_P (dC, dI) vwCl (Wd base cy rf v 874) H → va_S (fun q => base ≤ q) s.heap H locs → W p l e { frames := 5, cells := 0, slots := 0, locals := 116 } s m args below meth c H locs 0 0 QQ (F0 m 36 ls []) := by
  intro hl hP hS
  refine lv_iload_n hx hb dX9_send_36 rfl (lv_at hl 2 rfl) ?_
  exact hret _ _ _ _ _ _ dX9_send_37 hw hP hS
def w_X9_send (p1 : Int32) (v : VV) (Q : Int32 → VV → Prop) : Prop :=
  w_X9_isNoEnd p1 v (fun (x1 : Int32) (v1 : VV) => (x1 = 0 → vp_in p1 2 ∧ ∀ t14 : Nat, t14 = 523 + 146 * (Int32.toNatClampNeg p1) → ∀ x20 : Int32, x20 = v1 0 3 → w_X0_sendMessage t14 x20 v1 (fun (x23 : Int32) (v3 : VV) => (x23 < 0 → b_X9_send_36 p1 Q  p1 x23 v3) ∧ (¬ x23 < 0 → ∀ v4 : VV, v4 = up2 v3 0 3 0 → b_X9_send_36 p1 Q  p1 x23 v4))) ∧ (¬ x1 = 0 → Q ((-1)) v1))
set_option maxHeartbeats 4000000 in
set_option maxRecDepth 100000 in
/-- TransportFour.send -/
theorem t_X9_send (l : Launch) (dC : Nat → ClassId) (dI : Nat → Nat → Nat) (base : Nat) (cy : Nat → ClassId) (p1 : Int32) (v : VV) (Q : Int32 → VV → Prop) (hw : w_X9_send p1 v Q) : CI l yX9_send (.code yX9_send cX9_send 3 (some .int) :: TB) { frames := 5, cells := 0, slots := 0, locals := 116 } dC dI base cy [.ref (base + 0), .int p1] v Q := by
  refine Met.ofW (cc := cX9_send) (maxL := 3) (ret := (some .int)) (by decide) rfl ?_
  intro p e s m args below meth c s₁ B hml hv
  obtain ⟨rfl, hP, hK⟩ := hv
  have hx := B.exec
  have hb := B.bytes
  have hr := B.returns
  have hts0 := atoms_spec (ws := (.code yX9_send cX9_send 3 (some .int) :: TB)) B.pre
  have hts : ∀ w ∈ TB, w.before ([.ref (base + 0), .int p1]).toArray s = true := fun w h => hts0 w (List.mem_cons_of_mem _ h)
  have hown : s.vm.findClass RX9 = some m.cls := findClass_of_methodNamed B.named
  have hlocks := B.notSynchronized
  have hS : va_S (fun q => base ≤ q) s.heap s.heap [] := va_S.rf
  have hl := lv_entry ([.ref (base + 0), .int p1]) (n := 3) (Nat.le_of_ble_eq_true rfl)
  rw [lg_entry_eq]
  generalize (lg_sl ([.ref (base + 0), .int p1]) ++ List.replicate (3 - (lg_sl ([.ref (base + 0), .int p1])).length) Slot.unset).toArray = ls at hl ⊢
  have hl : lv_has ls 3 [(0, .ref (base + 0)), (1, .int p1)] := hl
  have hret : ∀ (pc : Nat) (x : Int32) (v : VV) (H : Heap) (locs : List Loc) (ls : Array Slot), decode cX9_send pc = .ok (.ireturn, 1) → Q x v → va_P (dC, dI) vwCl (Wd base cy rf v 874) H → va_S (fun q => base ≤ q) s.heap H locs → W p l e { frames := 5, cells := 0, slots := 0, locals := 116 } s m ([.ref (base + 0), .int p1]).toArray below meth c H locs 0 0 (MQ below (va_Qi Q (Hp dC dI base cy) (fun q => base ≤ q)) ([.ref (base + 0), .int p1]).toArray s 0 0 (fun q => base ≤ q)) (F0 m pc ls [.int x]) := fun pc x v H locs ls hd hq hP hS => W.iret (v := x) hx hb hr (fun t ht hW => ⟨⟨x, v, rfl, hq, by rw [ht]; exact hP, va_K.moved hW.alike hK⟩, hS.F ht⟩) hS.2.2 hd
  refine lv_iload_n hx hb dX9_send_0 rfl (lv_at hl 1 rfl) ?_
  refine kS_I (As := [.int p1]) (rest := []) ⟨hx, hb, hml, hown, hts⟩ (t_X9_isNoEnd l dC dI base cy p1 v _ hw) (cwS 1 hts (gS ml_X9_29 mt_X9_isNoEnd mn_X9 mo_X9_isNoEnd) rfl rfl rfl (by decide +kernel) ⟨by decide, by decide⟩) hK hP hS rfl hl.1 rfl (Nat.le_of_ble_eq_true rfl) dX9_send_1 ⟨Nat.zero_le _, Nat.zero_le _⟩ (fun x1 v1 H locs hw hP hS => ?_)
  refine lv_if_eq (tgt := 9) hx hb dX9_send_4 (by decide) (fun c4 => ?_) (fun c4 => ?_)
  · have hw := hw.1 c4
    refine lv_aload_n hx hb dX9_send_9 rfl (lv_at hl 0 rfl) ?_
    refine w_gR (C := RX9) (T := TX9) (N := 4) (ci := 9) hx hb hts in9 hown hK hP 1 th9.1 th9 rfl (by decide) (ch9_1 th9).1 (hts _ mf_X9_21) dX9_send_10 ?_
    refine lv_iload_n hx hb dX9_send_13 rfl (lv_at hl 1 rfl) ?_
    obtain ⟨hi2, hw⟩ := hw
    obtain ⟨t14, et14⟩ : ∃ y : Nat, y = 523 + 146 * (Int32.toNatClampNeg p1) := ⟨_, rfl⟩
    have hw := hw t14 et14
    have qt14 := arE (i := (Int32.toNatClampNeg p1)) (in_lt hi2)
    rw [← et14] at qt14
    refine w_aa (q0 := 3) hx hb hK hP (ch9_1 th9).2.1.1 (ch9_1 th9).2.1 (by decide) rfl (ch9_1 th9).2.2 hi2 qt14.1 dX9_send_14 ?_
    refine lv_aload_n hx hb dX9_send_15 rfl (lv_at hl 0 rfl) ?_
    refine w_gR (C := RX9) (T := TX9) (N := 4) (ci := 9) hx hb hts in9 hown hK hP 2 th9.1 th9 rfl (by decide) (ch9_2 th9).1 (hts _ mf_X9_25) dX9_send_16 ?_
    refine lv_aload_n hx hb dX9_send_19 rfl (lv_at hl 0 rfl) ?_
    refine w_gI (C := RX9) (T := TX9) (N := 4) (ci := 9) hx hb hts in9 hown hK hP 3 th9.1 th9 rfl (by decide) (hts _ mf_X9_37) dX9_send_20 ?_
    refine lv_topi (fun x20 ex20 => ?_)
    have hw := hw x20 ex20
    refine k_I (As := [.ref (base + 815), .int x20]) (rest := []) ⟨hx, hb, hml, hown, hts⟩ (t_X0_sendMessage l dC dI base cy t14 qt14.2 x20 v1 _ hw) (cwV 2 hts (gV ml_X9_41 mi_X0_sendMessage mx_X0_sendMessage mn_X0 mo_X0_sendMessage) rfl rfl rfl (by decide +kernel) ⟨by decide, by decide⟩) hK hP hS qt14.2 (by decide) rfl rfl hl.1 rfl (Nat.le_of_ble_eq_true rfl) dX9_send_23 ⟨Nat.zero_le _, Nat.zero_le _⟩ (fun x23 v3 H locs hw hP hS => ?_)
    refine lv_istore_n (lv' := [(2, .int x23), (0, .ref (base + 0)), (1, .int p1)]) hx hb dX9_send_26 rfl hl (by decide) rfl (fun ls hl => ?_)
    refine lv_iload_n hx hb dX9_send_27 rfl (lv_at hl 0 rfl) ?_
    refine lv_if_lt (tgt := 36) hx hb dX9_send_28 (by decide) (fun c28 => ?_) (fun c28 => ?_)
    · have hw := hw.1 c28
      exact tb_X9_send_36 hx hb hml hown hts hK p1 _ hret  p1 x23 v3 _ _ _ hw (lv_sub hl [1, 2, 0] rfl) hP hS
    · have hw := hw.2 c28
      refine lv_aload_n hx hb dX9_send_31 rfl (lv_at hl 1 rfl) ?_
      refine lv_iconst (v := 0) hx hb dX9_send_32 (by decide) ?_
      refine w_pI (C := RX9) (T := TX9) (N := 4) (ci := 9) hx hb hts in9 tyX9 tyX9_ok nmX9 hown hK hP hS 3 th9.1 th9 rfl (by decide) (hts _ mf_X9_37) rfl (ty := .int) (by decide +kernel) rfl rfl dX9_send_33 (fun v4 H locs hv4 hP hz hS => ?_)
      have hw := hw v4 hv4
      exact tb_X9_send_36 hx hb hml hown hts hK p1 _ hret  p1 x23 v4 _ _ _ hw (lv_sub hl [1, 2, 0] rfl) hP hS
  · have hw := hw.2 c4
    refine lv_iconst (v := -1) hx hb dX9_send_7 (by decide) ?_
    exact hret _ _ _ _ _ _ dX9_send_8 hw hP hS
def w_X7_add (o : Nat) (p1 : Int32) (v : VV) (Q : Int32 → VV → Prop) : Prop :=
  ∀ x1 : Int32, x1 = v o 2 → (x1 < 8 → ∀ x17 : Int32, x17 = v o 2 → vp_in x17 8 ∧ ∀ v1 : VV, v1 = up2 v (o + 1) (Int32.toNatClampNeg x17) p1 → ∀ x24 : Int32, x24 = v1 o 2 → ∀ x28 : Int32, x28 = x24 + 1 → ∀ v3 : VV, v3 = up2 v1 o 2 x28 → ∀ x33 : Int32, x33 = v3 o 2 → Q x33 v3) ∧ (¬ x1 < 8 → Q ((-3)) v)
set_option maxHeartbeats 4000000 in
set_option maxRecDepth 100000 in
/-- TransportFour$UrgentOut.add -/
theorem t_X7_add (l : Launch) (dC : Nat → ClassId) (dI : Nat → Nat → Nat) (base : Nat) (cy : Nat → ClassId) (o : Nat) (ho : isO 7 o) (p1 : Int32) (v : VV) (Q : Int32 → VV → Prop) (hw : w_X7_add o p1 v Q) : CI l yX7_add (.code yX7_add cX7_add 2 (some .int) :: TB) { frames := 0, cells := 0, slots := 0, locals := 0 } dC dI base cy [.ref (base + o), .int p1] v Q := by
  refine Met.ofW (cc := cX7_add) (maxL := 2) (ret := (some .int)) (by decide) rfl ?_
  intro p e s m args below meth c s₁ B hml hv
  obtain ⟨rfl, hP, hK⟩ := hv
  have hx := B.exec
  have hb := B.bytes
  have hr := B.returns
  have hts0 := atoms_spec (ws := (.code yX7_add cX7_add 2 (some .int) :: TB)) B.pre
  have hts : ∀ w ∈ TB, w.before ([.ref (base + o), .int p1]).toArray s = true := fun w h => hts0 w (List.mem_cons_of_mem _ h)
  have hown : s.vm.findClass RX7 = some m.cls := findClass_of_methodNamed B.named
  have hlocks := B.notSynchronized
  have hS : va_S (fun q => base ≤ q) s.heap s.heap [] := va_S.rf
  have hl := lv_entry ([.ref (base + o), .int p1]) (n := 2) (Nat.le_of_ble_eq_true rfl)
  rw [lg_entry_eq]
  generalize (lg_sl ([.ref (base + o), .int p1]) ++ List.replicate (2 - (lg_sl ([.ref (base + o), .int p1])).length) Slot.unset).toArray = ls at hl ⊢
  have hl : lv_has ls 2 [(0, .ref (base + o)), (1, .int p1)] := hl
  have hret : ∀ (pc : Nat) (x : Int32) (v : VV) (H : Heap) (locs : List Loc) (ls : Array Slot), decode cX7_add pc = .ok (.ireturn, 1) → Q x v → va_P (dC, dI) vwCl (Wd base cy rf v 874) H → va_S (fun q => base ≤ q) s.heap H locs → W p l e { frames := 0, cells := 0, slots := 0, locals := 0 } s m ([.ref (base + o), .int p1]).toArray below meth c H locs 0 0 (MQ below (va_Qi Q (Hp dC dI base cy) (fun q => base ≤ q)) ([.ref (base + o), .int p1]).toArray s 0 0 (fun q => base ≤ q)) (F0 m pc ls [.int x]) := fun pc x v H locs ls hd hq hP hS => W.iret (v := x) hx hb hr (fun t ht hW => ⟨⟨x, v, rfl, hq, by rw [ht]; exact hP, va_K.moved hW.alike hK⟩, hS.F ht⟩) hS.2.2 hd
  refine lv_aload_n hx hb dX7_add_0 rfl (lv_at hl 0 rfl) ?_
  refine w_gI (C := RX7) (T := TX7) (N := 4) (ci := 7) hx hb hts in7 hown hK hP 2 ho.1 ho rfl (by decide) (hts _ mf_X7_22) dX7_add_1 ?_
  refine lv_topi (fun x1 ex1 => ?_)
  have hw := hw x1 ex1
  refine lv_bipush (v := 8) hx hb dX7_add_4 (by decide) ?_
  refine lv_icmp_lt (tgt := 12) hx hb dX7_add_6 (by decide) (fun c6 => ?_) (fun c6 => ?_)
  · have hw := hw.1 c6
    refine lv_aload_n hx hb dX7_add_12 rfl (lv_at hl 0 rfl) ?_
    refine w_gR (C := RX7) (T := TX7) (N := 4) (ci := 7) hx hb hts in7 hown hK hP 0 ho.1 ho rfl (by decide) (ch7_0 ho).1 (hts _ mf_X7_9) dX7_add_13 ?_
    refine lv_aload_n hx hb dX7_add_16 rfl (lv_at hl 0 rfl) ?_
    refine w_gI (C := RX7) (T := TX7) (N := 4) (ci := 7) hx hb hts in7 hown hK hP 2 ho.1 ho rfl (by decide) (hts _ mf_X7_22) dX7_add_17 ?_
    refine lv_topi (fun x17 ex17 => ?_)
    have hw := hw x17 ex17
    refine lv_iload_n hx hb dX7_add_20 rfl (lv_at hl 1 rfl) ?_
    obtain ⟨hi2, hw⟩ := hw
    refine w_is (N := 8) hx hb hK hP hS (ch7_0 ho).2.1.1 (ch7_0 ho).2.1 (ch7_0 ho).2.2 hi2 dX7_add_21 (fun v1 H locs hv1 hP hz hS => ?_)
    have hw := hw v1 hv1
    refine lv_aload_n hx hb dX7_add_22 rfl (lv_at hl 0 rfl) ?_
    refine lv_dup hx hb dX7_add_23 rfl ?_
    refine w_gI (C := RX7) (T := TX7) (N := 4) (ci := 7) hx hb hts in7 hown hK hP 2 ho.1 ho rfl (by decide) (hts _ mf_X7_22) dX7_add_24 ?_
    refine lv_topi (fun x24 ex24 => ?_)
    have hw := hw x24 ex24
    refine lv_iconst (v := 1) hx hb dX7_add_27 (by decide) ?_
    refine lv_iadd hx hb dX7_add_28 ?_
    refine lv_topi (fun x28 ex28 => ?_)
    have hw := hw x28 ex28
    refine w_pI (C := RX7) (T := TX7) (N := 4) (ci := 7) hx hb hts in7 tyX7 tyX7_ok nmX7 hown hK hP hS 2 ho.1 ho rfl (by decide) (hts _ mf_X7_22) rfl (ty := .int) (by decide +kernel) rfl rfl dX7_add_29 (fun v3 H locs hv3 hP hz hS => ?_)
    have hw := hw v3 hv3
    refine lv_aload_n hx hb dX7_add_32 rfl (lv_at hl 0 rfl) ?_
    refine w_gI (C := RX7) (T := TX7) (N := 4) (ci := 7) hx hb hts in7 hown hK hP 2 ho.1 ho rfl (by decide) (hts _ mf_X7_22) dX7_add_33 ?_
    refine lv_topi (fun x33 ex33 => ?_)
    have hw := hw x33 ex33
    exact hret _ _ _ _ _ _ dX7_add_36 hw hP hS
  · have hw := hw.2 c6
    refine lv_bipush (v := -3) hx hb dX7_add_9 (by decide) ?_
    exact hret _ _ _ _ _ _ dX7_add_11 hw hP hS
def b_X7_maySendNext_21 (o : Nat) (Q : Int32 → VV → Prop)  (v : VV) : Prop :=
  Q 0 v
set_option maxHeartbeats 4000000 in
set_option maxRecDepth 100000 in
theorem tb_X7_maySendNext_21 {p : Program} {l : Launch} {e : Env} {s : State} {m : MethodId} {args : Array Value} {below : List Frame} {meth : Method} {c : Code} {QQ : State → Prop} {dC : Nat → ClassId} {dI : Nat → Nat → Nat} {base : Nat} {cy : Nat → ClassId} (hx : p.tables.exec = Jvm.exec) (hb : c.code = cX7_maySendNext) (hml : c.maxLocals = 1) (hown : s.vm.findClass RX7 = some m.cls) (hts : ∀ w ∈ TB, w.before args s = true) (hK : va_K (dC, dI) vwCl (tyL cy) s) (o : Nat) (ho : isO 7 o) (Q : Int32 → VV → Prop) (hret : ∀ (pc : Nat) (x : Int32) (v : VV) (H : Heap) (locs : List Loc) (ls : Array Slot), decode cX7_maySendNext pc = .ok (.ireturn, 1) → (x = 0 ∨ x = 1) → Q x v → va_P (dC, dI) vwCl (Wd base cy rf v 874) H → va_S (fun q => base ≤ q) s.heap H locs → W p l e { frames := 0, cells := 0, slots := 0, locals := 0 } s m args below meth c H locs 0 0 QQ (F0 m pc ls [.int x]))  (v : VV) (H : Heap) (locs : List Loc) (ls : Array Slot) (hw : b_X7_maySendNext_21 o Q   v) : lv_has ls 1 [(0, .ref (base + o))] → va_P (dC, dI) vwCl (Wd base cy rf v 874) H → va_S (fun q => base ≤ q) s.heap H locs → W p l e { frames := 0, cells := 0, slots := 0, locals := 0 } s m args below meth c H locs 0 0 QQ (F0 m 21 ls []) := by
  intro hl hP hS
  refine lv_iconst (v := 0) hx hb dX7_maySendNext_21 (by decide) ?_
  exact hret _ _ _ _ _ _ dX7_maySendNext_22 (by decide) hw hP hS
def w_X7_maySendNext (o : Nat) (v : VV) (Q : Int32 → VV → Prop) : Prop :=
  ∀ x1 : Int32, x1 = v o 2 → (x1 ≤ 0 → b_X7_maySendNext_21 o Q   v) ∧ (¬ x1 ≤ 0 → ∀ x11 : Int32, x11 = v (o + 2) 0 → (¬ x11 = 0 → b_X7_maySendNext_21 o Q   v) ∧ (x11 = 0 → Q 1 v))
set_option maxHeartbeats 4000000 in
set_option maxRecDepth 100000 in
/-- TransportFour$UrgentOut.maySendNext -/
theorem t_X7_maySendNext (l : Launch) (dC : Nat → ClassId) (dI : Nat → Nat → Nat) (base : Nat) (cy : Nat → ClassId) (o : Nat) (ho : isO 7 o) (v : VV) (Q : Int32 → VV → Prop) (hw : w_X7_maySendNext o v Q) : CI l yX7_maySendNext (.code yX7_maySendNext cX7_maySendNext 1 (some .boolean) :: TB) { frames := 0, cells := 0, slots := 0, locals := 0 } dC dI base cy [.ref (base + o)] v Q := by
  refine Met.ofW (cc := cX7_maySendNext) (maxL := 1) (ret := (some .boolean)) (by decide) rfl ?_
  intro p e s m args below meth c s₁ B hml hv
  obtain ⟨rfl, hP, hK⟩ := hv
  have hx := B.exec
  have hb := B.bytes
  have hr := B.returns
  have hts0 := atoms_spec (ws := (.code yX7_maySendNext cX7_maySendNext 1 (some .boolean) :: TB)) B.pre
  have hts : ∀ w ∈ TB, w.before ([.ref (base + o)]).toArray s = true := fun w h => hts0 w (List.mem_cons_of_mem _ h)
  have hown : s.vm.findClass RX7 = some m.cls := findClass_of_methodNamed B.named
  have hlocks := B.notSynchronized
  have hS : va_S (fun q => base ≤ q) s.heap s.heap [] := va_S.rf
  have hl := lv_entry ([.ref (base + o)]) (n := 1) (Nat.le_of_ble_eq_true rfl)
  rw [lg_entry_eq]
  generalize (lg_sl ([.ref (base + o)]) ++ List.replicate (1 - (lg_sl ([.ref (base + o)])).length) Slot.unset).toArray = ls at hl ⊢
  have hl : lv_has ls 1 [(0, .ref (base + o))] := hl
  have hret : ∀ (pc : Nat) (x : Int32) (v : VV) (H : Heap) (locs : List Loc) (ls : Array Slot), decode cX7_maySendNext pc = .ok (.ireturn, 1) → (x = 0 ∨ x = 1) → Q x v → va_P (dC, dI) vwCl (Wd base cy rf v 874) H → va_S (fun q => base ≤ q) s.heap H locs → W p l e { frames := 0, cells := 0, slots := 0, locals := 0 } s m ([.ref (base + o)]).toArray below meth c H locs 0 0 (MQ below (va_Qi Q (Hp dC dI base cy) (fun q => base ≤ q)) ([.ref (base + o)]).toArray s 0 0 (fun q => base ≤ q)) (F0 m pc ls [.int x]) := fun pc x v H locs ls hd hz hq hP hS => W.zret (v := x) hx hb hr (zb_n hz) (fun t ht hW => ⟨⟨x, v, rfl, hq, by rw [ht]; exact hP, va_K.moved hW.alike hK⟩, hS.F ht⟩) hS.2.2 hd
  refine lv_aload_n hx hb dX7_maySendNext_0 rfl (lv_at hl 0 rfl) ?_
  refine w_gI (C := RX7) (T := TX7) (N := 4) (ci := 7) hx hb hts in7 hown hK hP 2 ho.1 ho rfl (by decide) (hts _ mf_X7_22) dX7_maySendNext_1 ?_
  refine lv_topi (fun x1 ex1 => ?_)
  have hw := hw x1 ex1
  refine lv_if_le (tgt := 21) hx hb dX7_maySendNext_4 (by decide) (fun c4 => ?_) (fun c4 => ?_)
  · have hw := hw.1 c4
    exact tb_X7_maySendNext_21 hx hb hml hown hts hK o ho _ hret   v _ _ _ hw (lv_sub hl [0] rfl) hP hS
  · have hw := hw.2 c4
    refine lv_aload_n hx hb dX7_maySendNext_7 rfl (lv_at hl 0 rfl) ?_
    refine w_gR (C := RX7) (T := TX7) (N := 4) (ci := 7) hx hb hts in7 hown hK hP 1 ho.1 ho rfl (by decide) (ch7_1 ho).1 (hts _ mf_X7_18) dX7_maySendNext_8 ?_
    refine w_gI (C := RX8) (T := TX8) (N := 2) (ci := 8) hx hb hts in8 hown hK hP 0 (ch7_1 ho).2.1 (ch7_1 ho).2 rfl (by decide) (hts _ mf_X7_32) dX7_maySendNext_11 ?_
    refine lv_topi (fun x11 ex11 => ?_)
    have hw := hw x11 ex11
    refine lv_if_ne (tgt := 21) hx hb dX7_maySendNext_14 (by decide) (fun c14 => ?_) (fun c14 => ?_)
    · have hw := hw.1 c14
      exact tb_X7_maySendNext_21 hx hb hml hown hts hK o ho _ hret   v _ _ _ hw (lv_sub hl [0] rfl) hP hS
    · have hw := hw.2 c14
      refine lv_iconst (v := 1) hx hb dX7_maySendNext_17 (by decide) ?_
      refine lv_goto (tgt := 22) hx hb dX7_maySendNext_18 (by decide) ?_
      exact hret _ _ _ _ _ _ dX7_maySendNext_22 (by decide) hw hP hS
def w_X0_sendFirstUrgent (o : Nat) (v : VV) (Q : VV → Prop) : Prop :=
  w_X2_nextUnit  v (fun (t4 : Nat) (v1 : VV) => isO 5 t4 ∧ ∀ x12 : Int32, x12 = v1 o 10 → ∀ x19 : Int32, x19 = v1 (o + 140) 3 → w_X5_writeNumbered t4 16 x12 x19 v1 (fun (v2 : VV) => ∀ x34 : Int32, x34 = v2 (o + 140 + 1) (Int32.toNatClampNeg 0) → w_X5_add t4 x34 v2 (fun (v3 : VV) => ∀ x49 : Int32, x49 = v3 1 10 → w_X8_count (o + 140 + 2) x49 v3 (fun (v4 : VV) => ∀ x60 : Int32, x60 = v4 o 0 → w_X2_dispatch x60 v4 (fun (v5 : VV) => Q v5)))))
set_option maxHeartbeats 4000000 in
set_option maxRecDepth 100000 in
/-- TransportFour$End.sendFirstUrgent -/
theorem t_X0_sendFirstUrgent (l : Launch) (dC : Nat → ClassId) (dI : Nat → Nat → Nat) (base : Nat) (cy : Nat → ClassId) (o : Nat) (ho : isO 0 o) (v : VV) (Q : VV → Prop) (hw : w_X0_sendFirstUrgent o v Q) : CV l yX0_sendFirstUrgent (.code yX0_sendFirstUrgent cX0_sendFirstUrgent 2 none :: TB) { frames := 2, cells := 0, slots := 0, locals := 48 } dC dI base cy [.ref (base + o)] v Q := by
  refine Met.ofW (cc := cX0_sendFirstUrgent) (maxL := 2) (ret := none) (by decide) rfl ?_
  intro p e s m args below meth c s₁ B hml hv
  obtain ⟨rfl, hP, hK⟩ := hv
  have hx := B.exec
  have hb := B.bytes
  have hr := B.returns
  have hts0 := atoms_spec (ws := (.code yX0_sendFirstUrgent cX0_sendFirstUrgent 2 none :: TB)) B.pre
  have hts : ∀ w ∈ TB, w.before ([.ref (base + o)]).toArray s = true := fun w h => hts0 w (List.mem_cons_of_mem _ h)
  have hown : s.vm.findClass RX0 = some m.cls := findClass_of_methodNamed B.named
  have hlocks := B.notSynchronized
  have hS : va_S (fun q => base ≤ q) s.heap s.heap [] := va_S.rf
  have hl := lv_entry ([.ref (base + o)]) (n := 2) (Nat.le_of_ble_eq_true rfl)
  rw [lg_entry_eq]
  generalize (lg_sl ([.ref (base + o)]) ++ List.replicate (2 - (lg_sl ([.ref (base + o)])).length) Slot.unset).toArray = ls at hl ⊢
  have hl : lv_has ls 2 [(0, .ref (base + o))] := hl
  have hret : ∀ (pc : Nat) (v : VV) (H : Heap) (locs : List Loc) (ls : Array Slot), decode cX0_sendFirstUrgent pc = .ok (.return_, 1) → Q v → va_P (dC, dI) vwCl (Wd base cy rf v 874) H → va_S (fun q => base ≤ q) s.heap H locs → W p l e { frames := 2, cells := 0, slots := 0, locals := 48 } s m ([.ref (base + o)]).toArray below meth c H locs 0 0 (MQ below (va_Qv Q (Hp dC dI base cy) (fun q => base ≤ q)) ([.ref (base + o)]).toArray s 0 0 (fun q => base ≤ q)) (F0 m pc ls []) := fun pc v H locs ls hd hq hP hS => W.vret hx hb hr (fun t ht hW => ⟨⟨v, rfl, hq, by rw [ht]; exact hP, va_K.moved hW.alike hK⟩, hS.F ht⟩) hS.2.2 hd
  refine lv_aload_n hx hb dX0_sendFirstUrgent_0 rfl (lv_at hl 0 rfl) ?_
  refine w_gR (C := RX0) (T := TX0) (N := 15) (ci := 0) hx hb hts in0 hown hK hP 1 ho.1 ho rfl (by decide) (ch0_1 ho).1 (hts _ mf_X0_53) dX0_sendFirstUrgent_1 ?_
  refine k_Q (As := []) (rest := []) ⟨hx, hb, hml, hown, hts⟩ (t_X2_nextUnit l dC dI base cy  v _ hw) (cwV 0 hts (gV ml_X0_264 mi_X2_nextUnit mx_X2_nextUnit mn_X2 mo_X2_nextUnit) rfl rfl rfl (by decide +kernel) ⟨by decide, by decide⟩) hK hP hS (ch0_1 ho).2 (by decide) rfl rfl hl.1 rfl (Nat.le_of_ble_eq_true rfl) dX0_sendFirstUrgent_4 ⟨Nat.zero_le _, Nat.zero_le _⟩ (fun t4 v1 H locs hw hP hS => ?_)
  obtain ⟨ht4, hw⟩ := hw
  refine lv_astore_n (lv' := [(1, .ref (base + t4)), (0, .ref (base + o))]) hx hb dX0_sendFirstUrgent_7 rfl hl (by decide) rfl (fun ls hl => ?_)
  refine lv_aload_n hx hb dX0_sendFirstUrgent_8 rfl (lv_at hl 0 rfl) ?_
  refine lv_bipush (v := 16) hx hb dX0_sendFirstUrgent_9 (by decide) ?_
  refine lv_aload_n hx hb dX0_sendFirstUrgent_11 rfl (lv_at hl 1 rfl) ?_
  refine w_gI (C := RX0) (T := TX0) (N := 15) (ci := 0) hx hb hts in0 hown hK hP 10 ho.1 ho rfl (by decide) (hts _ mf_X0_81) dX0_sendFirstUrgent_12 ?_
  refine lv_topi (fun x12 ex12 => ?_)
  have hw := hw x12 ex12
  refine lv_aload_n hx hb dX0_sendFirstUrgent_15 rfl (lv_at hl 1 rfl) ?_
  refine w_gR (C := RX0) (T := TX0) (N := 15) (ci := 0) hx hb hts in0 hown hK hP 4 ho.1 ho rfl (by decide) (ch0_4 ho).1 (hts _ mf_X0_28) dX0_sendFirstUrgent_16 ?_
  refine w_gI (C := RX7) (T := TX7) (N := 4) (ci := 7) hx hb hts in7 hown hK hP 3 (ch0_4 ho).2.1 (ch0_4 ho).2 rfl (by decide) (hts _ mf_X0_291) dX0_sendFirstUrgent_19 ?_
  refine lv_topi (fun x19 ex19 => ?_)
  have hw := hw x19 ex19
  refine k_V (As := [.int 16, .int x12, .int x19]) (rest := []) ⟨hx, hb, hml, hown, hts⟩ (t_X5_writeNumbered l dC dI base cy t4 ht4 16 x12 x19 v1 _ hw) (cwV 3 hts (gV ml_X0_274 mi_X5_writeNumbered mx_X5_writeNumbered mn_X5 mo_X5_writeNumbered) rfl rfl rfl (by decide +kernel) ⟨by decide, by decide⟩) hK hP hS ht4 (by decide) rfl rfl hl.1 rfl (Nat.le_of_ble_eq_true rfl) dX0_sendFirstUrgent_22 ⟨Nat.zero_le _, Nat.zero_le _⟩ (fun v2 H locs hw hP hS => ?_)
  refine lv_aload_n hx hb dX0_sendFirstUrgent_25 rfl (lv_at hl 0 rfl) ?_
  refine lv_aload_n hx hb dX0_sendFirstUrgent_26 rfl (lv_at hl 1 rfl) ?_
  refine w_gR (C := RX0) (T := TX0) (N := 15) (ci := 0) hx hb hts in0 hown hK hP 4 ho.1 ho rfl (by decide) (ch0_4 ho).1 (hts _ mf_X0_28) dX0_sendFirstUrgent_27 ?_
  refine w_gR (C := RX7) (T := TX7) (N := 4) (ci := 7) hx hb hts in7 hown hK hP 0 (ch0_4 ho).2.1 (ch0_4 ho).2 rfl (by decide) (ch7_0 (ch0_4 ho).2).1 (hts _ mf_X0_293) dX0_sendFirstUrgent_30 ?_
  refine lv_iconst (v := 0) hx hb dX0_sendFirstUrgent_33 (by decide) ?_
  refine w_ia (N := 8) hx hb hK hP (ch7_0 (ch0_4 ho).2).2.1.1 (ch7_0 (ch0_4 ho).2).2.1 (ch7_0 (ch0_4 ho).2).2.2 (vp_in_nI (n := 0) (by decide) (by decide)) dX0_sendFirstUrgent_34 ?_
  refine lv_topi (fun x34 ex34 => ?_)
  have hw := hw x34 ex34
  refine k_V (As := [.int x34]) (rest := []) ⟨hx, hb, hml, hown, hts⟩ (t_X5_add l dC dI base cy t4 ht4 x34 v2 _ hw) (cwV 1 hts (gV ml_X0_288 mi_X5_add mx_X5_add mn_X5 mo_X5_add) rfl rfl rfl (by decide +kernel) ⟨by decide, by decide⟩) hK hP hS ht4 (by decide) rfl rfl hl.1 rfl (Nat.le_of_ble_eq_true rfl) dX0_sendFirstUrgent_35 ⟨Nat.zero_le _, Nat.zero_le _⟩ (fun v3 H locs hw hP hS => ?_)
  refine lv_aload_n hx hb dX0_sendFirstUrgent_38 rfl (lv_at hl 1 rfl) ?_
  refine w_gR (C := RX0) (T := TX0) (N := 15) (ci := 0) hx hb hts in0 hown hK hP 4 ho.1 ho rfl (by decide) (ch0_4 ho).1 (hts _ mf_X0_28) dX0_sendFirstUrgent_39 ?_
  refine w_gR (C := RX7) (T := TX7) (N := 4) (ci := 7) hx hb hts in7 hown hK hP 1 (ch0_4 ho).2.1 (ch0_4 ho).2 rfl (by decide) (ch7_1 (ch0_4 ho).2).1 (hts _ mf_X0_249) dX0_sendFirstUrgent_42 ?_
  refine lv_aload_n hx hb dX0_sendFirstUrgent_45 rfl (lv_at hl 1 rfl) ?_
  refine w_gR (C := RX0) (T := TX0) (N := 15) (ci := 0) hx hb hts in0 hown hK hP 1 ho.1 ho rfl (by decide) (ch0_1 ho).1 (hts _ mf_X0_53) dX0_sendFirstUrgent_46 ?_
  refine w_gI (C := RX2) (T := TX2) (N := 11) (ci := 2) hx hb hts in2 hown hK hP 10 (ch0_1 ho).2.1 (ch0_1 ho).2 rfl (by decide) (hts _ mf_X0_88) dX0_sendFirstUrgent_49 ?_
  refine lv_topi (fun x49 ex49 => ?_)
  have hw := hw x49 ex49
  refine k_V (As := [.int x49]) (rest := []) ⟨hx, hb, hml, hown, hts⟩ (t_X8_count l dC dI base cy (o + 140 + 2) (ch7_1 (ch0_4 ho).2).2 x49 v3 _ hw) (cwV 1 hts (gV ml_X0_261 mi_X8_count mx_X8_count mn_X8 mo_X8_count) rfl rfl rfl (by decide +kernel) ⟨by decide, by decide⟩) hK hP hS (ch7_1 (ch0_4 ho).2).2 (by decide) rfl rfl hl.1 rfl (Nat.le_of_ble_eq_true rfl) dX0_sendFirstUrgent_52 ⟨Nat.zero_le _, Nat.zero_le _⟩ (fun v4 H locs hw hP hS => ?_)
  refine lv_aload_n hx hb dX0_sendFirstUrgent_55 rfl (lv_at hl 1 rfl) ?_
  refine w_gR (C := RX0) (T := TX0) (N := 15) (ci := 0) hx hb hts in0 hown hK hP 1 ho.1 ho rfl (by decide) (ch0_1 ho).1 (hts _ mf_X0_53) dX0_sendFirstUrgent_56 ?_
  refine lv_aload_n hx hb dX0_sendFirstUrgent_59 rfl (lv_at hl 1 rfl) ?_
  refine w_gI (C := RX0) (T := TX0) (N := 15) (ci := 0) hx hb hts in0 hown hK hP 0 ho.1 ho rfl (by decide) (hts _ mf_X0_50) dX0_sendFirstUrgent_60 ?_
  refine lv_topi (fun x60 ex60 => ?_)
  have hw := hw x60 ex60
  refine k_V (As := [.int x60]) (rest := []) ⟨hx, hb, hml, hown, hts⟩ (t_X2_dispatch l dC dI base cy x60 v4 _ hw) (cwV 1 hts (gV ml_X0_271 mi_X2_dispatch mx_X2_dispatch mn_X2 mo_X2_dispatch) rfl rfl rfl (by decide +kernel) ⟨by decide, by decide⟩) hK hP hS (ch0_1 ho).2 (by decide) rfl rfl hl.1 rfl (Nat.le_of_ble_eq_true rfl) dX0_sendFirstUrgent_63 ⟨Nat.zero_le _, Nat.zero_le _⟩ (fun v5 H locs hw hP hS => ?_)
  exact hret _ _ _ _ _ dX0_sendFirstUrgent_66 hw hP hS
def w_X0_sendNewUrgent (o : Nat) (v : VV) (Q : VV → Prop) : Prop :=
  w_X7_maySendNext (o + 140) v (fun (x4 : Int32) (v1 : VV) => (x4 = 0 → Q v1) ∧ (¬ x4 = 0 → w_X0_sendFirstUrgent o v1 (fun (v2 : VV) => Q v2)))
set_option maxHeartbeats 4000000 in
set_option maxRecDepth 100000 in
/-- TransportFour$End.sendNewUrgent -/
theorem t_X0_sendNewUrgent (l : Launch) (dC : Nat → ClassId) (dI : Nat → Nat → Nat) (base : Nat) (cy : Nat → ClassId) (o : Nat) (ho : isO 0 o) (v : VV) (Q : VV → Prop) (hw : w_X0_sendNewUrgent o v Q) : CV l yX0_sendNewUrgent (.code yX0_sendNewUrgent cX0_sendNewUrgent 1 none :: TB) { frames := 3, cells := 0, slots := 0, locals := 69 } dC dI base cy [.ref (base + o)] v Q := by
  refine Met.ofW (cc := cX0_sendNewUrgent) (maxL := 1) (ret := none) (by decide) rfl ?_
  intro p e s m args below meth c s₁ B hml hv
  obtain ⟨rfl, hP, hK⟩ := hv
  have hx := B.exec
  have hb := B.bytes
  have hr := B.returns
  have hts0 := atoms_spec (ws := (.code yX0_sendNewUrgent cX0_sendNewUrgent 1 none :: TB)) B.pre
  have hts : ∀ w ∈ TB, w.before ([.ref (base + o)]).toArray s = true := fun w h => hts0 w (List.mem_cons_of_mem _ h)
  have hown : s.vm.findClass RX0 = some m.cls := findClass_of_methodNamed B.named
  have hlocks := B.notSynchronized
  have hS : va_S (fun q => base ≤ q) s.heap s.heap [] := va_S.rf
  have hl := lv_entry ([.ref (base + o)]) (n := 1) (Nat.le_of_ble_eq_true rfl)
  rw [lg_entry_eq]
  generalize (lg_sl ([.ref (base + o)]) ++ List.replicate (1 - (lg_sl ([.ref (base + o)])).length) Slot.unset).toArray = ls at hl ⊢
  have hl : lv_has ls 1 [(0, .ref (base + o))] := hl
  have hret : ∀ (pc : Nat) (v : VV) (H : Heap) (locs : List Loc) (ls : Array Slot), decode cX0_sendNewUrgent pc = .ok (.return_, 1) → Q v → va_P (dC, dI) vwCl (Wd base cy rf v 874) H → va_S (fun q => base ≤ q) s.heap H locs → W p l e { frames := 3, cells := 0, slots := 0, locals := 69 } s m ([.ref (base + o)]).toArray below meth c H locs 0 0 (MQ below (va_Qv Q (Hp dC dI base cy) (fun q => base ≤ q)) ([.ref (base + o)]).toArray s 0 0 (fun q => base ≤ q)) (F0 m pc ls []) := fun pc v H locs ls hd hq hP hS => W.vret hx hb hr (fun t ht hW => ⟨⟨v, rfl, hq, by rw [ht]; exact hP, va_K.moved hW.alike hK⟩, hS.F ht⟩) hS.2.2 hd
  refine lv_aload_n hx hb dX0_sendNewUrgent_0 rfl (lv_at hl 0 rfl) ?_
  refine w_gR (C := RX0) (T := TX0) (N := 15) (ci := 0) hx hb hts in0 hown hK hP 4 ho.1 ho rfl (by decide) (ch0_4 ho).1 (hts _ mf_X0_28) dX0_sendNewUrgent_1 ?_
  refine k_I (As := []) (rest := []) ⟨hx, hb, hml, hown, hts⟩ (t_X7_maySendNext l dC dI base cy (o + 140) (ch0_4 ho).2 v _ hw) (cwV 0 hts (gV ml_X0_290 mi_X7_maySendNext mx_X7_maySendNext mn_X7 mo_X7_maySendNext) rfl rfl rfl (by decide +kernel) ⟨by decide, by decide⟩) hK hP hS (ch0_4 ho).2 (by decide) rfl rfl hl.1 rfl (Nat.le_of_ble_eq_true rfl) dX0_sendNewUrgent_4 ⟨Nat.zero_le _, Nat.zero_le _⟩ (fun x4 v1 H locs hw hP hS => ?_)
  refine lv_if_eq (tgt := 14) hx hb dX0_sendNewUrgent_7 (by decide) (fun c7 => ?_) (fun c7 => ?_)
  · have hw := hw.1 c7
    exact hret _ _ _ _ _ dX0_sendNewUrgent_14 hw hP hS
  · have hw := hw.2 c7
    refine lv_aload_n hx hb dX0_sendNewUrgent_10 rfl (lv_at hl 0 rfl) ?_
    refine k_V (As := []) (rest := []) ⟨hx, hb, hml, hown, hts⟩ (t_X0_sendFirstUrgent l dC dI base cy o ho v1 _ hw) (cwV 0 hts (gV ml_X0_250 mi_X0_sendFirstUrgent mx_X0_sendFirstUrgent mn_X0 mo_X0_sendFirstUrgent) rfl rfl rfl (by decide +kernel) ⟨by decide, by decide⟩) hK hP hS ho (by decide) rfl rfl hl.1 rfl (Nat.le_of_ble_eq_true rfl) dX0_sendNewUrgent_11 ⟨Nat.zero_le _, Nat.zero_le _⟩ (fun v2 H locs hw hP hS => ?_)
    exact hret _ _ _ _ _ dX0_sendNewUrgent_14 hw hP hS
def w_X0_sendUrgentByte (o : Nat) (p1 : Int32) (v : VV) (Q : Int32 → VV → Prop) : Prop :=
  ∀ x1 : Int32, x1 = v o 8 → (x1 = 2 → w_X7_add (o + 140) p1 v (fun (x16 : Int32) (v1 : VV) => w_X0_sendNewUrgent o v1 (fun (v2 : VV) => Q x16 v2))) ∧ (¬ x1 = 2 → Q ((-2)) v)
set_option maxHeartbeats 4000000 in
set_option maxRecDepth 100000 in
/-- TransportFour$End.sendUrgentByte -/
theorem t_X0_sendUrgentByte (l : Launch) (dC : Nat → ClassId) (dI : Nat → Nat → Nat) (base : Nat) (cy : Nat → ClassId) (o : Nat) (ho : isO 0 o) (p1 : Int32) (v : VV) (Q : Int32 → VV → Prop) (hw : w_X0_sendUrgentByte o p1 v Q) : CI l yX0_sendUrgentByte (.code yX0_sendUrgentByte cX0_sendUrgentByte 3 (some .int) :: TB) { frames := 4, cells := 0, slots := 0, locals := 89 } dC dI base cy [.ref (base + o), .int p1] v Q := by
  refine Met.ofW (cc := cX0_sendUrgentByte) (maxL := 3) (ret := (some .int)) (by decide) rfl ?_
  intro p e s m args below meth c s₁ B hml hv
  obtain ⟨rfl, hP, hK⟩ := hv
  have hx := B.exec
  have hb := B.bytes
  have hr := B.returns
  have hts0 := atoms_spec (ws := (.code yX0_sendUrgentByte cX0_sendUrgentByte 3 (some .int) :: TB)) B.pre
  have hts : ∀ w ∈ TB, w.before ([.ref (base + o), .int p1]).toArray s = true := fun w h => hts0 w (List.mem_cons_of_mem _ h)
  have hown : s.vm.findClass RX0 = some m.cls := findClass_of_methodNamed B.named
  have hlocks := B.notSynchronized
  have hS : va_S (fun q => base ≤ q) s.heap s.heap [] := va_S.rf
  have hl := lv_entry ([.ref (base + o), .int p1]) (n := 3) (Nat.le_of_ble_eq_true rfl)
  rw [lg_entry_eq]
  generalize (lg_sl ([.ref (base + o), .int p1]) ++ List.replicate (3 - (lg_sl ([.ref (base + o), .int p1])).length) Slot.unset).toArray = ls at hl ⊢
  have hl : lv_has ls 3 [(0, .ref (base + o)), (1, .int p1)] := hl
  have hret : ∀ (pc : Nat) (x : Int32) (v : VV) (H : Heap) (locs : List Loc) (ls : Array Slot), decode cX0_sendUrgentByte pc = .ok (.ireturn, 1) → Q x v → va_P (dC, dI) vwCl (Wd base cy rf v 874) H → va_S (fun q => base ≤ q) s.heap H locs → W p l e { frames := 4, cells := 0, slots := 0, locals := 89 } s m ([.ref (base + o), .int p1]).toArray below meth c H locs 0 0 (MQ below (va_Qi Q (Hp dC dI base cy) (fun q => base ≤ q)) ([.ref (base + o), .int p1]).toArray s 0 0 (fun q => base ≤ q)) (F0 m pc ls [.int x]) := fun pc x v H locs ls hd hq hP hS => W.iret (v := x) hx hb hr (fun t ht hW => ⟨⟨x, v, rfl, hq, by rw [ht]; exact hP, va_K.moved hW.alike hK⟩, hS.F ht⟩) hS.2.2 hd
  refine lv_aload_n hx hb dX0_sendUrgentByte_0 rfl (lv_at hl 0 rfl) ?_
  refine w_gI (C := RX0) (T := TX0) (N := 15) (ci := 0) hx hb hts in0 hown hK hP 8 ho.1 ho rfl (by decide) (hts _ mf_X0_57) dX0_sendUrgentByte_1 ?_
  refine lv_topi (fun x1 ex1 => ?_)
  have hw := hw x1 ex1
  refine lv_iconst (v := 2) hx hb dX0_sendUrgentByte_4 (by decide) ?_
  refine lv_icmp_eq (tgt := 11) hx hb dX0_sendUrgentByte_5 (by decide) (fun c5 => ?_) (fun c5 => ?_)
  · have hw := hw.1 c5
    refine lv_aload_n hx hb dX0_sendUrgentByte_11 rfl (lv_at hl 0 rfl) ?_
    refine w_gR (C := RX0) (T := TX0) (N := 15) (ci := 0) hx hb hts in0 hown hK hP 4 ho.1 ho rfl (by decide) (ch0_4 ho).1 (hts _ mf_X0_28) dX0_sendUrgentByte_12 ?_
    refine lv_iload_n hx hb dX0_sendUrgentByte_15 rfl (lv_at hl 1 rfl) ?_
    refine k_I (As := [.int p1]) (rest := []) ⟨hx, hb, hml, hown, hts⟩ (t_X7_add l dC dI base cy (o + 140) (ch0_4 ho).2 p1 v _ hw) (cwV 1 hts (gV ml_X0_110 mi_X7_add mx_X7_add mn_X7 mo_X7_add) rfl rfl rfl (by decide +kernel) ⟨by decide, by decide⟩) hK hP hS (ch0_4 ho).2 (by decide) rfl rfl hl.1 rfl (Nat.le_of_ble_eq_true rfl) dX0_sendUrgentByte_16 ⟨Nat.zero_le _, Nat.zero_le _⟩ (fun x16 v1 H locs hw hP hS => ?_)
    refine lv_istore_n (lv' := [(2, .int x16), (0, .ref (base + o)), (1, .int p1)]) hx hb dX0_sendUrgentByte_19 rfl hl (by decide) rfl (fun ls hl => ?_)
    refine lv_aload_n hx hb dX0_sendUrgentByte_20 rfl (lv_at hl 1 rfl) ?_
    refine k_V (As := []) (rest := []) ⟨hx, hb, hml, hown, hts⟩ (t_X0_sendNewUrgent l dC dI base cy o ho v1 _ hw) (cwV 0 hts (gV ml_X0_114 mi_X0_sendNewUrgent mx_X0_sendNewUrgent mn_X0 mo_X0_sendNewUrgent) rfl rfl rfl (by decide +kernel) ⟨by decide, by decide⟩) hK hP hS ho (by decide) rfl rfl hl.1 rfl (Nat.le_of_ble_eq_true rfl) dX0_sendUrgentByte_21 ⟨Nat.zero_le _, Nat.zero_le _⟩ (fun v2 H locs hw hP hS => ?_)
    refine lv_iload_n hx hb dX0_sendUrgentByte_24 rfl (lv_at hl 0 rfl) ?_
    exact hret _ _ _ _ _ _ dX0_sendUrgentByte_25 hw hP hS
  · have hw := hw.2 c5
    refine lv_bipush (v := -2) hx hb dX0_sendUrgentByte_8 (by decide) ?_
    exact hret _ _ _ _ _ _ dX0_sendUrgentByte_10 hw hP hS
