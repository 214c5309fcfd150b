theorem inbK : ∀ o, o < 874 → kd o = 1 → (∀ j, j < 8 → isO 11 (o + 1 + 1 + j) ∧ sz (o + 1 + 1 + j) = 8) := by decide +kernel
theorem inbR : ∀ o, o < 874 → kd o = 1 → o + 17 ≤ 816 ∧ (∀ j, j < 17 → 2 ≤ j → kd (o + j) = 11 ∨ kd (o + j) = 12 ∨ kd (o + j) = 8) := by decide +kernel
set_option maxHeartbeats 4000000 in
set_option maxRecDepth 100000 in
/-- Inbox() -/
theorem ct1 (l : Launch) (dC : Nat → ClassId) (dI : Nat → Nat → Nat) (base : Nat) (cy : Nat → ClassId) (o : Nat) (v : VV) (r : RR) (ho : isO 1 o) (hZ0 : Zr (o + 1) v r) (hv0 : v o = z0) (hr0 : r o = n0) : CC l yX1_init (.code yX1_init cX1_init 1 none :: TB) { frames := 1, cells := 16, slots := 672, locals := 12 } dC dI base cy [.ref (base + o)] (o + 1) v r (o + 17) 16 672 (fun v' r' => Bt o (o + 17) v r v' r') := by
  refine Met.ofW (cc := cX1_init) (maxL := 1) (ret := none) (by decide) rfl ?_
  intro p e s m args below meth c s₁ B hml hv
  obtain ⟨rfl, hz, hP, hK, hX⟩ := hv
  have hx := B.exec
  have hb := B.bytes
  have hr := B.returns
  have hts0 := atoms_spec (ws := (.code yX1_init cX1_init 1 none :: TB)) B.pre
  have hts : ∀ w ∈ TB, w.before ([.ref (base + o)]).toArray s = true := fun w h => hts0 w (List.mem_cons_of_mem _ h)
  have hown : s.vm.findClass RX1 = some m.cls := findClass_of_methodNamed B.named
  have hlocks := B.notSynchronized
  have hin : meth.name = "<init>" := (name_of_methodNamed B.named B.method).1
  have hS : va_S (fun q => base ≤ q) s.heap s.heap [] := va_S.rf
  have hZ := hZ0
  have hl := lv_entry ([.ref (base + o)]) (n := 1) (Nat.le_of_ble_eq_true rfl)
  rw [lg_entry_eq]
  generalize (lg_sl ([.ref (base + o)]) ++ List.replicate (1 - (lg_sl ([.ref (base + o)])).length) Slot.unset).toArray = ls at hl ⊢
  have hl : lv_has ls 1 [(0, .ref (base + o))] := hl
  refine lv_aload_n hx hb dX1_init_0 rfl (lv_at hl 0 rfl) ?_
  refine W.objInit hx hb hown (hts _ ml_X1_3) (hts _ mi_obj) (hts _ mo_obj) rfl (by rw [hml]; exact hl.1) rfl dX1_init_1 (Nat.le_of_ble_eq_true rfl) (Nat.le_of_ble_eq_true rfl) ?_
  refine W.eq (g2 := F0 m 4 ls []) rfl ?_
  refine lv_aload_n hx hb dX1_init_4 rfl (lv_at hl 0 rfl) ?_
  refine lv_bipush (v := 8) hx hb dX1_init_5 (by decide) ?_
  refine lv_bipush (v := 8) hx hb dX1_init_7 (by decide) ?_
  refine w_mna (n := o + 1) hx hb hown (hts _ mc_X1_9) hX.1.2.2.2 (hts _ ma_int) hK hP hz hS hZ ((ch1_0 ho).2.1) ((ch1_0 ho).2.2) (inbK o ho.1 ho.2) (by decide) (by decide) dX1_init_9 (fun r1 H locs hr1 hP hz hS hZ => ?_)
  have hP : va_P (dC, dI) vwCl (Wd base cy r1 v (o + 10)) H := hP
  have hz : H.size = base + (o + 10) := hz
  have hZ : Zr (o + 10) v r1 := hZ
  refine w_pRF (ty := (.array (.array .int))) (C := RX1) (T := TX1) (N := 15) (ci := 1) hx hb hts in1 tyX1 tyX1_ok nmX1 hown hK hP hS 0 (by omega) ho rfl (by decide) (hts _ mf_X1_11) rfl hin rfl (by decide +kernel) rfl rfl dX1_init_13 (fun r2 H locs hr2 hP hz1 hS => ?_)
  have hz := hz1.trans hz
  have hZ := hZ.r hr2 (by omega)
  refine lv_aload_n hx hb dX1_init_16 rfl (lv_at hl 0 rfl) ?_
  refine lv_bipush (v := 8) hx hb dX1_init_17 (by decide) ?_
  refine w_newa (ty := .int) (n := o + 10) (q0 := 0) (ki := 11) (N := 8) hx hb rfl (by decide) rfl raI rfl (hts _ ma_int) hK hP hz hS hZ ((ch1_1 ho).2.1) ((ch1_1 ho).2.2) (by decide) (by decide) (by decide) (by decide) (by decide) dX1_init_19 (fun H hP hz hS hZ => ?_)
  have hP : va_P (dC, dI) vwCl (Wd base cy r2 v (o + 11)) H := hP
  have hz : H.size = base + (o + 11) := hz
  have hZ : Zr (o + 11) v r2 := hZ
  refine w_pRF (ty := (.array .int)) (C := RX1) (T := TX1) (N := 15) (ci := 1) hx hb hts in1 tyX1 tyX1_ok nmX1 hown hK hP hS 1 (by omega) ho rfl (by decide) (hts _ mf_X1_16) rfl hin rfl (by decide +kernel) rfl rfl dX1_init_21 (fun r3 H locs hr3 hP hz1 hS => ?_)
  have hz := hz1.trans hz
  have hZ := hZ.r hr3 (by omega)
  refine lv_aload_n hx hb dX1_init_24 rfl (lv_at hl 0 rfl) ?_
  refine lv_bipush (v := 8) hx hb dX1_init_25 (by decide) ?_
  refine w_newa (ty := .boolean) (n := o + 11) (q0 := 1) (ki := 12) (N := 8) hx hb rfl (by decide) rfl raZ rfl (hts _ ma_boolean) hK hP hz hS hZ ((ch1_2 ho).2.1) ((ch1_2 ho).2.2) (by decide) (by decide) (by decide) (by decide) (by decide) dX1_init_27 (fun H hP hz hS hZ => ?_)
  have hP : va_P (dC, dI) vwCl (Wd base cy r3 v (o + 12)) H := hP
  have hz : H.size = base + (o + 12) := hz
  have hZ : Zr (o + 12) v r3 := hZ
  refine w_pRF (ty := (.array .boolean)) (C := RX1) (T := TX1) (N := 15) (ci := 1) hx hb hts in1 tyX1 tyX1_ok nmX1 hown hK hP hS 2 (by omega) ho rfl (by decide) (hts _ mf_X1_20) rfl hin rfl (by decide +kernel) rfl rfl dX1_init_29 (fun r4 H locs hr4 hP hz1 hS => ?_)
  have hz := hz1.trans hz
  have hZ := hZ.r hr4 (by omega)
  refine lv_aload_n hx hb dX1_init_32 rfl (lv_at hl 0 rfl) ?_
  refine lv_bipush (v := 8) hx hb dX1_init_33 (by decide) ?_
  refine w_newa (ty := .boolean) (n := o + 12) (q0 := 1) (ki := 12) (N := 8) hx hb rfl (by decide) rfl raZ rfl (hts _ ma_boolean) hK hP hz hS hZ ((ch1_3 ho).2.1) ((ch1_3 ho).2.2) (by decide) (by decide) (by decide) (by decide) (by decide) dX1_init_35 (fun H hP hz hS hZ => ?_)
  have hP : va_P (dC, dI) vwCl (Wd base cy r4 v (o + 13)) H := hP
  have hz : H.size = base + (o + 13) := hz
  have hZ : Zr (o + 13) v r4 := hZ
  refine w_pRF (ty := (.array .boolean)) (C := RX1) (T := TX1) (N := 15) (ci := 1) hx hb hts in1 tyX1 tyX1_ok nmX1 hown hK hP hS 3 (by omega) ho rfl (by decide) (hts _ mf_X1_24) rfl hin rfl (by decide +kernel) rfl rfl dX1_init_37 (fun r5 H locs hr5 hP hz1 hS => ?_)
  have hz := hz1.trans hz
  have hZ := hZ.r hr5 (by omega)
  refine lv_aload_n hx hb dX1_init_40 rfl (lv_at hl 0 rfl) ?_
  refine lv_sipush (v := 256) hx hb dX1_init_41 (by decide) ?_
  refine w_newa (ty := .int) (n := o + 13) (q0 := 0) (ki := 11) (N := 256) hx hb rfl (by decide) rfl raI rfl (hts _ ma_int) hK hP hz hS hZ ((ch1_4 ho).2.1) ((ch1_4 ho).2.2) (by decide) (by decide) (by decide) (by decide) (by decide) dX1_init_44 (fun H hP hz hS hZ => ?_)
  have hP : va_P (dC, dI) vwCl (Wd base cy r5 v (o + 14)) H := hP
  have hz : H.size = base + (o + 14) := hz
  have hZ : Zr (o + 14) v r5 := hZ
  refine w_pRF (ty := (.array .int)) (C := RX1) (T := TX1) (N := 15) (ci := 1) hx hb hts in1 tyX1 tyX1_ok nmX1 hown hK hP hS 4 (by omega) ho rfl (by decide) (hts _ mf_X1_27) rfl hin rfl (by decide +kernel) rfl rfl dX1_init_46 (fun r6 H locs hr6 hP hz1 hS => ?_)
  have hz := hz1.trans hz
  have hZ := hZ.r hr6 (by omega)
  refine lv_aload_n hx hb dX1_init_49 rfl (lv_at hl 0 rfl) ?_
  refine lv_bipush (v := 32) hx hb dX1_init_50 (by decide) ?_
  refine w_newa (ty := .int) (n := o + 14) (q0 := 0) (ki := 11) (N := 32) hx hb rfl (by decide) rfl raI rfl (hts _ ma_int) hK hP hz hS hZ ((ch1_5 ho).2.1) ((ch1_5 ho).2.2) (by decide) (by decide) (by decide) (by decide) (by decide) dX1_init_52 (fun H hP hz hS hZ => ?_)
  have hP : va_P (dC, dI) vwCl (Wd base cy r6 v (o + 15)) H := hP
  have hz : H.size = base + (o + 15) := hz
  have hZ : Zr (o + 15) v r6 := hZ
  refine w_pRF (ty := (.array .int)) (C := RX1) (T := TX1) (N := 15) (ci := 1) hx hb hts in1 tyX1 tyX1_ok nmX1 hown hK hP hS 5 (by omega) ho rfl (by decide) (hts _ mf_X1_30) rfl hin rfl (by decide +kernel) rfl rfl dX1_init_54 (fun r7 H locs hr7 hP hz1 hS => ?_)
  have hz := hz1.trans hz
  have hZ := hZ.r hr7 (by omega)
  refine lv_aload_n hx hb dX1_init_57 rfl (lv_at hl 0 rfl) ?_
  refine lv_bipush (v := 32) hx hb dX1_init_58 (by decide) ?_
  refine w_newa (ty := .int) (n := o + 15) (q0 := 0) (ki := 11) (N := 32) hx hb rfl (by decide) rfl raI rfl (hts _ ma_int) hK hP hz hS hZ ((ch1_6 ho).2.1) ((ch1_6 ho).2.2) (by decide) (by decide) (by decide) (by decide) (by decide) dX1_init_60 (fun H hP hz hS hZ => ?_)
  have hP : va_P (dC, dI) vwCl (Wd base cy r7 v (o + 16)) H := hP
  have hz : H.size = base + (o + 16) := hz
  have hZ : Zr (o + 16) v r7 := hZ
  refine w_pRF (ty := (.array .int)) (C := RX1) (T := TX1) (N := 15) (ci := 1) hx hb hts in1 tyX1 tyX1_ok nmX1 hown hK hP hS 6 (by omega) ho rfl (by decide) (hts _ mf_X1_33) rfl hin rfl (by decide +kernel) rfl rfl dX1_init_62 (fun r8 H locs hr8 hP hz1 hS => ?_)
  have hz := hz1.trans hz
  have hZ := hZ.r hr8 (by omega)
  refine lv_aload_n hx hb dX1_init_65 rfl (lv_at hl 0 rfl) ?_
  refine lv_sipush (v := 256) hx hb dX1_init_66 (by decide) ?_
  refine w_newa (ty := .int) (n := o + 16) (q0 := 0) (ki := 11) (N := 256) hx hb rfl (by decide) rfl raI rfl (hts _ ma_int) hK hP hz hS hZ ((ch1_7 ho).2.1) ((ch1_7 ho).2.2) (by decide) (by decide) (by decide) (by decide) (by decide) dX1_init_69 (fun H hP hz hS hZ => ?_)
  have hP : va_P (dC, dI) vwCl (Wd base cy r8 v (o + 17)) H := hP
  have hz : H.size = base + (o + 17) := hz
  have hZ : Zr (o + 17) v r8 := hZ
  refine w_pRF (ty := (.array .int)) (C := RX1) (T := TX1) (N := 15) (ci := 1) hx hb hts in1 tyX1 tyX1_ok nmX1 hown hK hP hS 7 (by omega) ho rfl (by decide) (hts _ mf_X1_36) rfl hin rfl (by decide +kernel) rfl rfl dX1_init_71 (fun r9 H locs hr9 hP hz1 hS => ?_)
  have hz := hz1.trans hz
  have hZ := hZ.r hr9 (by omega)
  have hBt : Bt o (o + 17) v r v r9 := by
      have hR := inbR o ho.1 ho.2
      subst hr9 hr8 hr7 hr6 hr5 hr4 hr3 hr2 hr1
      refine ⟨fun a ha => ⟨rfl, ?_⟩, fun a h1 h2 => ?_, hZ⟩
      · simp only [up2_of _ _ _ _ (show a ≠ o by omega)]
        funext b
        simp [up1, show a ≠ o + 1 by omega]
      · by_cases h3 : a = o
        · subst h3
          refine ⟨hv0.trans (iv_n (ho.lt (by decide)) (by rw [ho.2]; decide)).symm, ?_⟩
          funext k
          simp only [up2, if_true, rf, ho.2, up1, hr0, n0]
          rcases Nat.lt_or_ge k 8 with hk | hk
          · match k, hk with
            | 0, _ => rfl
            | 1, _ => rfl
            | 2, _ => rfl
            | 3, _ => rfl
            | 4, _ => rfl
            | 5, _ => rfl
            | 6, _ => rfl
            | 7, _ => rfl
          · simp [show k ≠ 0 by omega, show k ≠ 1 by omega, show k ≠ 2 by omega, show k ≠ 3 by omega, show k ≠ 4 by omega, show k ≠ 5 by omega, show k ≠ 6 by omega, show k ≠ 7 by omega]
        · simp only [up2_of _ _ _ _ h3]
          by_cases h4 : a = o + 1
          · subst h4
            refine ⟨(hZ0 _ (by omega)).1.trans (iv_n (by omega) (by rw [(ch1_0 ho).2.1.2]; decide)).symm, ?_⟩
            funext b
            simp [up1]
          · have e9 : up1 r (o + 1) (rf (o + 1)) a = r a := by funext b; simp [up1, h4]
            rw [e9]
            obtain ⟨j, rfl⟩ : ∃ j, a = o + j := ⟨a - o, by omega⟩
            exact row0 (by omega) (hR.2 j (by omega) (by omega)) (hZ0 _ (by omega)).1 (hZ0 _ (by omega)).2
  refine W.widen (k := 16) (n := 672) (by decide) (by decide) ?_
  exact W.vret hx hb hr (fun t ht hW => ⟨⟨(v, r9), rfl, hBt, by rw [ht]; exact hz, by rw [ht]; exact hP, va_K.moved hW.alike hK, hX.warm hW⟩, hS.F ht⟩) hS.2.2 dX1_init_74
/-- the loop of Outbox(): i pieces are made -/
def I3 (o : Nat) (v1 : VV) (r1 : RR) (i : Nat) (v : VV) (r : RR) : Prop := (∀ a, a < o + 1 → v a = v1 a ∧ r a = r1 a) ∧ v (o + 1) = z0 ∧ (∀ j, r (o + 1) j = if j < i then some (o + 2 + 3 * j) else none) ∧ (∀ a, o + 2 ≤ a → a < o + 2 + 3 * i → v a = iv a ∧ r a = rf a) ∧ Zr (o + 2 + 3 * i) v r
set_option maxHeartbeats 4000000 in
set_option maxRecDepth 100000 in
/-- the loop of Outbox() -/
theorem lc3 {p : Program} {l : Launch} {e : Env} {R : Room} {s : State} {m : MethodId} {args : Array Value} {below : List Frame} {meth : Method} {c : Code} {Q : State → Prop} {dC : Nat → ClassId} {dI : Nat → Nat → Nat} {base : Nat} {cy : Nat → ClassId} {H0 : Heap} (hx : p.tables.exec = Jvm.exec) (hb : c.code = cX3_init) (hml : c.maxLocals = 2) (hown : s.vm.findClass RX3 = some m.cls) (hts : ∀ w ∈ TB, w.before args s = true) (hK : va_K (dC, dI) vwCl (tyL cy) s) (hX : Kx s) (hR : 3 ≤ R.frames ∧ 60 ≤ R.locals) (hRc : 121 ≤ R.cells ∧ 600 ≤ R.slots) {o : Nat} (ho : isO 3 o) {v1 : VV} {r1 : RR} (hr1 : r1 o 0 = some (o + 1)) (hex : ∀ (v : VV) (r : RR) (H : Heap) (locs : List Loc) (ls : Array Slot), I3 o v1 r1 (40) v r → lv_has ls 2 [(0, .ref (base + o))] → va_P (dC, dI) vwCl (Wd base cy r v (o + 122)) H → H.size = base + (o + 122) → va_S (fun q => base ≤ q) H0 H locs → W p l e R s m args below meth c H locs (121) (600) Q (F0 m 40 ls [])) : ∀ (k i : Nat) (v : VV) (r : RR) (H : Heap) (locs : List Loc) (ls : Array Slot), i ≤ 40 → 40 + 1 ≤ i + k → I3 o v1 r1 i v r → lv_has ls 2 [(1, .int (nI i)), (0, .ref (base + o))] → va_P (dC, dI) vwCl (Wd base cy r v (o + 2 + 3 * i)) H → H.size = base + (o + 2 + 3 * i) → va_S (fun q => base ≤ q) H0 H locs → W p l e R s m args below meth c H locs (1 + 3 * i) (40 + 14 * i) Q (F0 m 15 ls []) := by
  intro k
  induction k with
  | zero =>
    intro i v r H locs ls hi hk hI hl hP hz hS
    omega
  | succ k ih =>
    intro i v r H locs ls hi hk hI hl hP hz hS
    refine lv_iload_n hx hb dX3_init_15 rfl (lv_at hl 0 rfl) ?_
    refine lv_bipush (v := 40) hx hb dX3_init_16 (by decide) ?_
    refine lv_icmp_ge (tgt := 40) hx hb dX3_init_18 (by decide) (fun c18 => ?_) (fun c18 => ?_)
    · have i40 : i = 40 := by
        have := nI_lit_le (n := 40) (a := i) rfl c18 (by omega) (by decide)
        omega
      subst i40
      exact hex v r _ _ _ hI (lv_sub hl [1] rfl) hP hz hS
    · have hi2 : i < 40 := nI_nlit_le (n := 40) rfl c18 (by omega) (by decide)
      have hOi : isO 4 (o + 2 + 3 * i) := (arP (ch3_0 ho).2.1 hi2).2
      have hI0 := hI
      obtain ⟨J1, J2, J3, J4, hZ⟩ := hI
      refine lv_aload_n hx hb dX3_init_21 rfl (lv_at hl 1 rfl) ?_
      have q1 := ch3_0 ho
      refine w_gR (C := RX3) (T := TX3) (N := 6) (ci := 3) hx hb hts in3 hown hK hP 0 (by omega) ho rfl (by decide) ((congrFun (J1 o (by omega)).2 0).trans hr1) (hts _ mf_X3_11) dX3_init_22 ?_
      refine lv_iload_n hx hb dX3_init_25 rfl (lv_at hl 0 rfl) ?_
      refine w_new (n := o + 2 + 3 * i) (C := RX4) (T := TX4) (N := 4) (ci := 4) hx hb hts in4 tyX4 tyX4_ok hown (hts _ mc_X3_9) (hts _ ms_X4) (hts _ mn_X4) hK hP hz hS hZ rfl (hOi) (by decide) dvX4 (by omega) (by omega) dX3_init_26 (fun H hP hz hS hZ => ?_)
      have hP : va_P (dC, dI) vwCl (Wd base cy r v (o + 2 + 3 * i + 1)) H := hP
      have hz : H.size = base + (o + 2 + 3 * i + 1) := hz
      have hZ : Zr (o + 2 + 3 * i + 1) v r := hZ
      have J5 := hI0.2.2.2.2 (o + 2 + 3 * i) (by omega)
      refine lv_dup hx hb dX3_init_29 rfl ?_
      refine k_CN (As := []) (rest := [.ref (base + (o + 2 + 3 * i)), .int (nI i), .ref (base + (o + 1))]) (n' := o + 2 + 3 * i + 3) ⟨hx, hb, hml, hown, hts⟩ (ct4 l dC dI base cy (o + 2 + 3 * i) v r hOi hZ (J5).1 (J5).2) ⟨va_cnB (host := hst) 0 hts (gI mo_X4_init) rfl rfl rfl hX.2.2.2.2.2.2.1 (hts _ mn_X4) (by decide +kernel) ⟨Nat.le_trans (by decide) hR.1, Nat.le_trans (by decide) hR.2⟩, rfl, hts _ mi_X4_init⟩ hK hX hP hz hS rfl hl.1 rfl (Nat.le_of_ble_eq_true rfl) dX3_init_30 ⟨(by omega), (by omega)⟩ (fun v2 r3 H locs hB hP hz hS => ?_)
      have hZ := hB.2.2
      refine w_as (N := 40) (o := (o + 1)) (t := (o + 2 + 3 * i)) (ki := 15) (q0 := 4) (ci := 4) (C := RX4) (T := TX4) (Nf := 4) hx hb hK hP hS (by omega) (by omega) (q1.2.1) (hOi) (by decide) (by decide) rfl rfl (q1.2.2) (vp_in_nI hi2 (by decide)) dX3_init_33 (fun r4 H locs hr4 hP hz1 hS => ?_)
      have hz := hz1.trans hz
      have hZ := hZ.r hr4 (by omega)
      obtain ⟨x34, ex34⟩ : ∃ y : Int32, y = (nI i) + 1 := ⟨_, rfl⟩
      refine lv_iinc (v := x34) (lv' := [(1, .int x34), (0, .ref (base + o))]) hx hb dX3_init_34 hl (k := 0) rfl (by rw [ex34]; first | rfl | (rw [show Int32.ofInt (-1) = (-1 : Int32) from by decide])) (by decide) rfl (fun ls hl => ?_)
      refine lv_goto (tgt := 15) hx hb dX3_init_37 (by decide) ?_
      have eci : (nI i).toNatClampNeg = i := nI_clamp (by omega)
      refine W.widen (k := 1 + 3 * (i + 1)) (n := 40 + 14 * (i + 1)) (by omega) (by omega) ?_
      refine ih (i + 1) v2 r4 _ _ _ (by omega) (by omega) ⟨fun a ha => ?_, ?_, fun j => ?_, fun a h1 h2 => ?_, ?_⟩ (by rw [← nI_1 i, ← ex34]; exact lv_sub hl [0, 1] rfl) hP hz hS
      · rw [hr4, up2_of _ _ _ _ (by omega)]
        exact ⟨(hB.1 a (by omega)).1.trans (J1 a ha).1, (hB.1 a (by omega)).2.trans (J1 a ha).2⟩
      · exact (hB.1 (o + 1) (by omega)).1.trans J2
      · rw [hr4, eci]
        by_cases hj : j = i
        · subst hj
          rw [up2_s, if_pos (by omega)]
        · rw [up2_k _ _ _ _ hj, (hB.1 (o + 1) (by omega)).2, J3 j]
          by_cases h9 : j < i
          · rw [if_pos h9, if_pos (by omega)]
          · rw [if_neg h9, if_neg (by omega)]
      · rw [hr4, up2_of _ _ _ _ (by omega)]
        by_cases h9 : a < o + 2 + 3 * i
        · exact ⟨(hB.1 a (by omega)).1.trans (J4 a h1 h9).1, (hB.1 a (by omega)).2.trans (J4 a h1 h9).2⟩
        · exact hB.2.1 a (by omega) (by omega)
      · exact hZ
set_option maxHeartbeats 4000000 in
set_option maxRecDepth 100000 in
/-- Outbox() -/
theorem ct3 (l : Launch) (dC : Nat → ClassId) (dI : Nat → Nat → Nat) (base : Nat) (cy : Nat → ClassId) (o : Nat) (v : VV) (r : RR) (ho : isO 3 o) (hZ0 : Zr (o + 1) v r) (hv0 : v o = z0) (hr0 : r o = n0) : CC l yX3_init (.code yX3_init cX3_init 2 none :: TB) { frames := 3, cells := 121, slots := 600, locals := 60 } dC dI base cy [.ref (base + o)] (o + 1) v r (o + 122) 121 600 (fun v' r' => Bt o (o + 122) v r v' r') := by
  refine Met.ofW (cc := cX3_init) (maxL := 2) (ret := none) (by decide) rfl ?_
  intro p e s m args below meth c s₁ B hml hv
  obtain ⟨rfl, hz, hP, hK, hX⟩ := hv
  have hx := B.exec
  have hb := B.bytes
  have hr := B.returns
  have hts0 := atoms_spec (ws := (.code yX3_init cX3_init 2 none :: TB)) B.pre
  have hts : ∀ w ∈ TB, w.before ([.ref (base + o)]).toArray s = true := fun w h => hts0 w (List.mem_cons_of_mem _ h)
  have hown : s.vm.findClass RX3 = some m.cls := findClass_of_methodNamed B.named
  have hlocks := B.notSynchronized
  have hin : meth.name = "<init>" := (name_of_methodNamed B.named B.method).1
  have hS : va_S (fun q => base ≤ q) s.heap s.heap [] := va_S.rf
  have hZ := hZ0
  have hl := lv_entry ([.ref (base + o)]) (n := 2) (Nat.le_of_ble_eq_true rfl)
  rw [lg_entry_eq]
  generalize (lg_sl ([.ref (base + o)]) ++ List.replicate (2 - (lg_sl ([.ref (base + o)])).length) Slot.unset).toArray = ls at hl ⊢
  have hl : lv_has ls 2 [(0, .ref (base + o))] := hl
  refine lv_aload_n hx hb dX3_init_0 rfl (lv_at hl 0 rfl) ?_
  refine W.objInit hx hb hown (hts _ ml_X3_3) (hts _ mi_obj) (hts _ mo_obj) rfl (by rw [hml]; exact hl.1) rfl dX3_init_1 (Nat.le_of_ble_eq_true rfl) (Nat.le_of_ble_eq_true rfl) ?_
  refine W.eq (g2 := F0 m 4 ls []) rfl ?_
  refine lv_aload_n hx hb dX3_init_4 rfl (lv_at hl 0 rfl) ?_
  refine lv_bipush (v := 40) hx hb dX3_init_5 (by decide) ?_
  refine w_anew (n := o + 1) (C := RX4) (q0 := 4) (ki := 15) (N := 40) hx hb hown (hts _ mc_X3_9) hX.1.2.2.1 (by decide) rfl hK hP hz hS hZ ((ch3_0 ho).2.1) ((ch3_0 ho).2.2) (by decide) (by decide) (by decide) (by decide) (by decide) dX3_init_7 (fun H hP hz hS hZ => ?_)
  have hP : va_P (dC, dI) vwCl (Wd base cy r v (o + 2)) H := hP
  have hz : H.size = base + (o + 2) := hz
  have hZ : Zr (o + 2) v r := hZ
  refine w_pRF (ty := (.array (.object "TransportFour$Piece"))) (C := RX3) (T := TX3) (N := 6) (ci := 3) hx hb hts in3 tyX3 tyX3_ok nmX3 hown hK hP hS 0 (by omega) ho rfl (by decide) (hts _ mf_X3_11) rfl hin rfl (by decide +kernel) rfl rfl dX3_init_10 (fun r1 H locs hr1 hP hz1 hS => ?_)
  have hz := hz1.trans hz
  have hZ := hZ.r hr1 (by omega)
  refine lv_iconst (v := 0) hx hb dX3_init_13 (by decide) ?_
  refine lv_istore_n (lv' := [(1, .int 0), (0, .ref (base + o))]) hx hb dX3_init_14 rfl hl (by decide) rfl (fun ls hl => ?_)
  refine lc3 hx hb hml hown hts hK hX ⟨by decide, by decide⟩ ⟨by decide, by decide⟩ ho (v1 := v) (r1 := r1) (by rw [hr1, up2_s]) (fun w r9 H locs ls hI hl hP hz hS => ?_) 41 0 v r1 _ _ _ (by omega) (by omega) ⟨fun _ _ => ⟨rfl, rfl⟩, (hZ0 _ (by omega)).1, fun j => ?_, fun a h1 h2 => absurd h2 (by omega), hZ⟩ (lv_sub hl [0, 1] rfl) hP hz hS
  rotate_left
  · rw [hr1, up2_of _ _ _ _ (by omega), (hZ0 _ (by omega)).2]; rfl
  have hZ := hI.2.2.2.2
  have hBt : Bt o (o + 122) v r w r9 := by
      obtain ⟨J1, J2, J3, J4, J5⟩ := hI
      have hb : ∀ o, o < 874 → kd o = 3 → o + 122 ≤ 816 := by decide +kernel
      have hb := hb o ho.1 ho.2
      refine ⟨fun a ha => ⟨(J1 a (by omega)).1, (J1 a (by omega)).2.trans (by rw [hr1, up2_of _ _ _ _ (by omega)])⟩, fun a h1 h2 => ?_, J5⟩
      have hc : a = o ∨ a = o + 1 ∨ o + 2 ≤ a := by omega
      rcases hc with rfl | rfl | h3
      · refine ⟨(J1 a (by omega)).1.trans (hv0.trans (iv_n (by omega) (by rw [ho.2]; decide)).symm), (J1 a (by omega)).2.trans ?_⟩
        funext k
        rw [hr1]
        simp only [up2, if_true, rf, ho.2, hr0, n0]
      · refine ⟨J2.trans (iv_n (by omega) (by rw [(ch3_0 ho).2.1.2]; decide)).symm, ?_⟩
        funext k
        rw [J3 k]
        simp only [rf, (ch3_0 ho).2.1.2]
      · exact J4 a h3 (by omega)
  refine W.widen (k := 121) (n := 600) (by decide) (by decide) ?_
  exact W.vret hx hb hr (fun t ht hW => ⟨⟨(w, r9), rfl, hBt, by rw [ht]; exact hz, by rw [ht]; exact hP, va_K.moved hW.alike hK, hX.warm hW⟩, hS.F ht⟩) hS.2.2 dX3_init_40
