/-- the loop of Net(): i units are in the ring -/
def I2 (v1 : VV) (r1 : RR) (i : Nat) (v : VV) (r : RR) : Prop := (∀ a, a < 10 → v a = v1 a ∧ (a ≠ 2 → r a = r1 a)) ∧ (∀ j, r 2 j = if j < i then some (10 + 2 * j) else none) ∧ (∀ a, 10 ≤ a → a < 10 + 2 * i → v a = iv a ∧ r a = rf a) ∧ Zr (10 + 2 * i) v r
set_option maxHeartbeats 4000000 in
set_option maxRecDepth 100000 in
/-- the loop of Net() -/
theorem lc2 {p : Program} {l : Launch} {e : Env} {R : Room} {s : State} {m : MethodId} {args : Array Value} {below : List Frame} {meth : Method} {c : Code} {Q : State → Prop} {dC : Nat → ClassId} {dI : Nat → Nat → Nat} {base : Nat} {cy : Nat → ClassId} {H0 : Heap} (hx : p.tables.exec = Jvm.exec) (hb : c.code = cX2_init) (hml : c.maxLocals = 2) (hown : s.vm.findClass RX2 = some m.cls) (hts : ∀ w ∈ TB, w.before args s = true) (hK : va_K (dC, dI) vwCl (tyL cy) s) (hX : Kx s) (hR : 2 ≤ R.frames ∧ 40 ≤ R.locals) (hRc : 520 ≤ R.cells ∧ 6666 ≤ R.slots) {v1 : VV} {r1 : RR} (hr1 : r1 1 0 = some 2) (hex : ∀ (v : VV) (r : RR) (H : Heap) (locs : List Loc) (ls : Array Slot), I2 v1 r1 256 v r → lv_has ls 2 [(0, .ref (base + 1))] → va_P (dC, dI) vwCl (Wd base cy r v (522)) H → H.size = base + (522) → va_S (fun q => base ≤ q) H0 H locs → W p l e R s m args below meth c H locs (520) (6666) Q (F0 m 92 ls [])) : ∀ (k i : Nat) (v : VV) (r : RR) (H : Heap) (locs : List Loc) (ls : Array Slot), i ≤ 256 → 256 + 1 ≤ i + k → I2 v1 r1 i v r → lv_has ls 2 [(1, .int (nI i)), (0, .ref (base + 1))] → va_P (dC, dI) vwCl (Wd base cy r v (10 + 2 * i)) H → H.size = base + (10 + 2 * i) → va_S (fun q => base ≤ q) H0 H locs → W p l e R s m args below meth c H locs (8 + 2 * i) (522 + 24 * i) Q (F0 m 66 ls []) := by
  intro k
  induction k with
  | zero =>
    intro i v r H locs ls hi hk hI hl hP hz hS
    omega
  | succ k ih =>
    intro i v r H locs ls hi hk hI hl hP hz hS
    refine lv_iload_n hx hb dX2_init_66 rfl (lv_at hl 0 rfl) ?_
    refine lv_sipush (v := 256) hx hb dX2_init_67 (by decide) ?_
    refine lv_icmp_ge (tgt := 92) hx hb dX2_init_70 (by decide) (fun c70 => ?_) (fun c70 => ?_)
    · have i40 : i = 256 := by
        have := nI_lit_le (n := 256) (a := i) rfl c70 (by omega) (by decide)
        omega
      subst i40
      exact hex v r _ _ _ hI (lv_sub hl [1] rfl) hP hz hS
    · have hi2 : i < 256 := nI_nlit_le (n := 256) rfl c70 (by omega) (by decide)
      have hOi : isO 5 (10 + 2 * i) := (arU hi2).2
      have hI0 := hI
      obtain ⟨J1, J3, J4, hZ⟩ := hI
      refine lv_aload_n hx hb dX2_init_73 rfl (lv_at hl 1 rfl) ?_
      have q1 := ch2_0 i2
      refine w_gR (C := RX2) (T := TX2) (N := 11) (ci := 2) hx hb hts in2 hown hK hP 0 (by omega) i2 rfl (by decide) ((congrFun ((J1 1 (by omega)).2 (by decide)) 0).trans hr1) (hts _ mf_X2_11) dX2_init_74 ?_
      refine lv_iload_n hx hb dX2_init_77 rfl (lv_at hl 0 rfl) ?_
      refine w_new (n := 10 + 2 * i) (C := RX5) (T := TX5) (N := 7) (ci := 5) hx hb hts in5 tyX5 tyX5_ok hown (hts _ mc_X2_9) (hts _ ms_X5) (hts _ mn_X5) hK hP hz hS hZ rfl (hOi) (by decide) dvX5 (by omega) (by omega) dX2_init_78 (fun H hP hz hS hZ => ?_)
      have hP : va_P (dC, dI) vwCl (Wd base cy r v (10 + 2 * i + 1)) H := hP
      have hz : H.size = base + (10 + 2 * i + 1) := hz
      have hZ : Zr (10 + 2 * i + 1) v r := hZ
      have J5 := hI0.2.2.2 (10 + 2 * i) (by omega)
      refine lv_dup hx hb dX2_init_81 rfl ?_
      refine k_CN (As := []) (rest := [.ref (base + (10 + 2 * i)), .int (nI i), .ref (base + 2)]) (n' := 10 + 2 * i + 2) ⟨hx, hb, hml, hown, hts⟩ (ct5 l dC dI base cy (10 + 2 * i) v r hOi hZ (J5).1 (J5).2) ⟨va_cnB (host := hst) 0 hts (gI mo_X5_init) rfl rfl rfl hX.2.2.2.2.2.1 (hts _ mn_X5) (by decide +kernel) ⟨Nat.le_trans (by decide) hR.1, Nat.le_trans (by decide) hR.2⟩, rfl, hts _ mi_X5_init⟩ hK hX hP hz hS rfl hl.1 rfl (Nat.le_of_ble_eq_true rfl) dX2_init_82 ⟨(by omega), (by omega)⟩ (fun v2 r3 H locs hB hP hz hS => ?_)
      have hZ := hB.2.2
      refine w_as (N := 256) (o := 2) (t := (10 + 2 * i)) (ki := 13) (q0 := 2) (ci := 5) (C := RX5) (T := TX5) (Nf := 7) hx hb hK hP hS (by omega) (by omega) (q1.2.1) (hOi) (by decide) (by decide) rfl rfl (q1.2.2) (vp_in_nI hi2 (by decide)) dX2_init_85 (fun r4 H locs hr4 hP hz1 hS => ?_)
      have hz := hz1.trans hz
      have hZ := hZ.r hr4 (by omega)
      obtain ⟨x86, ex86⟩ : ∃ y : Int32, y = (nI i) + 1 := ⟨_, rfl⟩
      refine lv_iinc (v := x86) (lv' := [(1, .int x86), (0, .ref (base + 1))]) hx hb dX2_init_86 hl (k := 0) rfl (by rw [ex86]; first | rfl | (rw [show Int32.ofInt (-1) = (-1 : Int32) from by decide])) (by decide) rfl (fun ls hl => ?_)
      refine lv_goto (tgt := 66) hx hb dX2_init_89 (by decide) ?_
      have eci : (nI i).toNatClampNeg = i := nI_clamp (by omega)
      refine W.widen (k := 8 + 2 * (i + 1)) (n := 522 + 24 * (i + 1)) (by omega) (by omega) ?_
      refine ih (i + 1) v2 r4 _ _ _ (by omega) (by omega) ⟨fun a ha => ⟨?_, fun ha2 => ?_⟩, fun j => ?_, fun a h1 h2 => ?_, ?_⟩ (by rw [← nI_1 i, ← ex86]; exact lv_sub hl [0, 1] rfl) hP hz hS
      · exact (hB.1 a (by omega)).1.trans (J1 a ha).1
      · rw [hr4, up2_of _ _ _ _ (by omega)]
        exact (hB.1 a (by omega)).2.trans ((J1 a ha).2 ha2)
      · rw [hr4, eci]
        by_cases hj : j = i
        · subst hj
          rw [up2_s, if_pos (by omega)]
        · rw [up2_k _ _ _ _ hj, (hB.1 2 (by omega)).2, J3 j]
          by_cases h9 : j < i
          · rw [if_pos h9, if_pos (by omega)]
          · rw [if_neg h9, if_neg (by omega)]
      · rw [hr4, up2_of _ _ _ _ (by omega)]
        by_cases h9 : a < 10 + 2 * i
        · exact ⟨(hB.1 a (by omega)).1.trans (J4 a h1 h9).1, (hB.1 a (by omega)).2.trans (J4 a h1 h9).2⟩
        · exact hB.2.1 a (by omega) (by omega)
      · exact hZ
theorem bt_Net1 {r q0 q1 q2 : RR} (hr0 : r 1 = n0) (h0 : q0 = up2 r 1 0 (some 2)) (h1 : q1 1 = q0 1) (h2 : q2 = up2 (up2 (up2 (up2 (up2 (up2 q1 1 1 (some 3)) 1 2 (some 5)) 1 3 (some 6)) 1 4 (some 7)) 1 5 (some 8)) 1 6 (some 9)) (k : Nat) : q2 1 k = rf 1 k := by
  have hr : rf 1 k = if k = 0 then some 2 else if k = 1 then some 3 else if k = 2 then some 5 else if k = 3 then some 6 else if k = 4 then some 7 else if k = 5 then some 8 else if k = 6 then some 9 else none := by simp only [rf, i2.2]
  rw [hr, h2]
  by_cases k6 : k = 6
  · subst k6; rw [up2_s]; rfl
  rw [up2_k _ _ _ _ k6]
  by_cases k5 : k = 5
  · subst k5; rw [up2_s]; rfl
  rw [up2_k _ _ _ _ k5]
  by_cases k4 : k = 4
  · subst k4; rw [up2_s]; rfl
  rw [up2_k _ _ _ _ k4]
  by_cases k3 : k = 3
  · subst k3; rw [up2_s]; rfl
  rw [up2_k _ _ _ _ k3]
  by_cases k2 : k = 2
  · subst k2; rw [up2_s]; rfl
  rw [up2_k _ _ _ _ k2]
  by_cases k1 : k = 1
  · subst k1; rw [up2_s]; rfl
  rw [up2_k _ _ _ _ k1, h1, h0]
  by_cases k0 : k = 0
  · subst k0; rw [up2_s]; rfl
  rw [up2_k _ _ _ _ k0, hr0, if_neg k0, if_neg k1, if_neg k2, if_neg k3, if_neg k4, if_neg k5, if_neg k6]
  rfl
theorem netK : ∀ a, a < 10 → 5 ≤ a → kd a = 11 ∨ kd a = 12 ∨ kd a = 8 := by decide +kernel
theorem bt_Net {v w1 w : VV} {r q0 q1 q2 r9 : RR} (hZ0 : Zr 2 v r) (hv0 : v 1 = z0) (B0 : Bt 3 5 v q0 w1 q1) (e0 : ∀ a, a ≠ 1 → q0 a = r a) (e1 : ∀ a, a ≠ 1 → q2 a = q1 a) (e2 : ∀ k, q2 1 k = rf 1 k) (hI : I2 w1 q2 256 w r9) : Bt 1 522 v r w r9 := by
  obtain ⟨J1, J3, J4, J5⟩ := hI
  refine ⟨fun a ha => ⟨(J1 a (by omega)).1.trans (B0.1 a (by omega)).1, ((J1 a (by omega)).2 (by omega)).trans ((e1 a (by omega)).trans ((B0.1 a (by omega)).2.trans (e0 a (by omega))))⟩, fun a h1 h2 => ?_, J5⟩
  by_cases h10 : 10 ≤ a
  · exact J4 a h10 (by omega)
  · by_cases ha1 : a = 1
    · rw [ha1]
      exact ⟨(J1 1 (by omega)).1.trans ((B0.1 1 (by omega)).1.trans (hv0.trans (iv_n (by decide) (by decide)).symm)), ((J1 1 (by omega)).2 (by decide)).trans (funext e2)⟩
    · by_cases ha2 : a = 2
      · rw [ha2]
        refine ⟨(J1 2 (by omega)).1.trans ((B0.1 2 (by omega)).1.trans ((hZ0 2 (by omega)).1.trans (iv_n (by decide) (by decide)).symm)), funext fun k => ?_⟩
        rw [J3 k]
        simp only [rf, show kd 2 = 13 from by decide]
      · rw [(J1 a (by omega)).1, (J1 a (by omega)).2 ha2, e1 a ha1]
        by_cases h3 : a = 3 ∨ a = 4
        · exact B0.2.1 a (by omega) (by omega)
        · have hz9 := B0.2.2 a (by omega)
          exact row0 (by omega) (netK a (by omega) (by omega)) hz9.1 hz9.2
set_option maxHeartbeats 4000000 in
set_option maxRecDepth 100000 in
/-- Net() -/
theorem ct2 (l : Launch) (dC : Nat → ClassId) (dI : Nat → Nat → Nat) (base : Nat) (cy : Nat → ClassId) (v : VV) (r : RR) (hZ0 : Zr 2 v r) (hv0 : v 1 = z0) (hr0 : r 1 = n0) : CC l yX2_init (.code yX2_init cX2_init 2 none :: TB) { frames := 3, cells := 520, slots := 6666, locals := 60 } dC dI base cy [.ref (base + 1)] (2) v r (522) 520 6666 (fun v' r' => Bt 1 522 v r v' r') := by
  refine Met.ofW (cc := cX2_init) (maxL := 2) (ret := none) (by decide) rfl ?_
  intro p e s m args below meth c s₁ B hml hv
  obtain ⟨rfl, hz, hP, hK, hX⟩ := hv
  have hx := B.exec
  have hb := B.bytes
  have hr := B.returns
  have hts0 := atoms_spec (ws := (.code yX2_init cX2_init 2 none :: TB)) B.pre
  have hts : ∀ w ∈ TB, w.before ([.ref (base + 1)]).toArray s = true := fun w h => hts0 w (List.mem_cons_of_mem _ h)
  have hown : s.vm.findClass RX2 = some m.cls := findClass_of_methodNamed B.named
  have hlocks := B.notSynchronized
  have hin : meth.name = "<init>" := (name_of_methodNamed B.named B.method).1
  have hS : va_S (fun q => base ≤ q) s.heap s.heap [] := va_S.rf
  have hZ := hZ0
  have hl := lv_entry ([.ref (base + 1)]) (n := 2) (Nat.le_of_ble_eq_true rfl)
  rw [lg_entry_eq]
  generalize (lg_sl ([.ref (base + 1)]) ++ List.replicate (2 - (lg_sl ([.ref (base + 1)])).length) Slot.unset).toArray = ls at hl ⊢
  have hl : lv_has ls 2 [(0, .ref (base + 1))] := hl
  refine lv_aload_n hx hb dX2_init_0 rfl (lv_at hl 0 rfl) ?_
  refine W.objInit hx hb hown (hts _ ml_X2_3) (hts _ mi_obj) (hts _ mo_obj) rfl (by rw [hml]; exact hl.1) rfl dX2_init_1 (Nat.le_of_ble_eq_true rfl) (Nat.le_of_ble_eq_true rfl) ?_
  refine W.eq (g2 := F0 m 4 ls []) rfl ?_
  refine lv_aload_n hx hb dX2_init_4 rfl (lv_at hl 0 rfl) ?_
  refine lv_sipush (v := 256) hx hb dX2_init_5 (by decide) ?_
  refine w_anew (n := 2) (C := RX5) (q0 := 2) (ki := 13) (N := 256) hx hb hown (hts _ mc_X2_9) hX.1.1 (by decide) rfl hK hP hz hS hZ (by decide) (by decide) (by decide) (by decide) (by decide) (by decide) (by decide) dX2_init_8 (fun H hP hz hS hZ => ?_)
  have hP : va_P (dC, dI) vwCl (Wd base cy r v (3)) H := hP
  have hz : H.size = base + (3) := hz
  have hZ : Zr (3) v r := hZ
  refine w_pRF (ty := (.array (.object "TransportFour$Unit"))) (C := RX2) (T := TX2) (N := 11) (ci := 2) hx hb hts in2 tyX2 tyX2_ok nmX2 hown hK hP hS 0 (by omega) i2 rfl (by decide) (hts _ mf_X2_11) rfl hin rfl (by decide +kernel) rfl rfl dX2_init_11 (fun r1 H locs hr1 hP hz1 hS => ?_)
  have hz := hz1.trans hz
  have hZ := hZ.r hr1 (by omega)
  refine lv_aload_n hx hb dX2_init_14 rfl (lv_at hl 0 rfl) ?_
  have K0 := hZ
  refine w_new (n := 3) (C := RX5) (T := TX5) (N := 7) (ci := 5) hx hb hts in5 tyX5 tyX5_ok hown (hts _ mc_X2_9) (hts _ ms_X5) (hts _ mn_X5) hK hP hz hS hZ rfl (by decide) (by decide) dvX5 (by decide) (by decide) dX2_init_15 (fun H hP hz hS hZ => ?_)
  have hP : va_P (dC, dI) vwCl (Wd base cy r1 v (4)) H := hP
  have hz : H.size = base + (4) := hz
  have hZ : Zr (4) v r1 := hZ
  refine lv_dup hx hb dX2_init_18 rfl ?_
  refine k_CN (As := []) (rest := [.ref (base + 3), .ref (base + 1)]) (n' := 5) ⟨hx, hb, hml, hown, hts⟩ (ct5 l dC dI base cy 3 v r1 (by decide) hZ (K0 _ (by omega)).1 (K0 _ (by omega)).2) ⟨va_cnB (host := hst) 0 hts (gI mo_X5_init) rfl rfl rfl hX.2.2.2.2.2.1 (hts _ mn_X5) (by decide +kernel) ⟨by decide, by decide⟩, rfl, hts _ mi_X5_init⟩ hK hX hP hz hS rfl hl.1 rfl (Nat.le_of_ble_eq_true rfl) dX2_init_19 ⟨(by decide), (by decide)⟩ (fun v2 r3 H locs hB hP hz hS => ?_)
  have hZ := hB.2.2
  have B0 := hB
  refine w_pRF (ty := (.object "TransportFour$Unit")) (C := RX2) (T := TX2) (N := 11) (ci := 2) hx hb hts in2 tyX2 tyX2_ok nmX2 hown hK hP hS 1 (by omega) i2 rfl (by decide) (hts _ mf_X2_18) rfl hin rfl (by decide +kernel) rfl rfl dX2_init_22 (fun r4 H locs hr4 hP hz1 hS => ?_)
  have hz := hz1.trans hz
  have hZ := hZ.r hr4 (by omega)
  refine lv_aload_n hx hb dX2_init_25 rfl (lv_at hl 0 rfl) ?_
  refine lv_bipush (v := 60) hx hb dX2_init_26 (by decide) ?_
  refine w_newa (ty := .int) (n := 5) (q0 := 0) (ki := 11) (N := 60) hx hb rfl (by decide) rfl raI rfl (hts _ ma_int) hK hP hz hS hZ (by decide) (by decide) (by decide) (by decide) (by decide) (by decide) (by decide) dX2_init_28 (fun H hP hz hS hZ => ?_)
  have hP : va_P (dC, dI) vwCl (Wd base cy r4 v2 (6)) H := hP
  have hz : H.size = base + (6) := hz
  have hZ : Zr (6) v2 r4 := hZ
  refine w_pRF (ty := (.array .int)) (C := RX2) (T := TX2) (N := 11) (ci := 2) hx hb hts in2 tyX2 tyX2_ok nmX2 hown hK hP hS 2 (by omega) i2 rfl (by decide) (hts _ mf_X2_22) rfl hin rfl (by decide +kernel) rfl rfl dX2_init_30 (fun r5 H locs hr5 hP hz1 hS => ?_)
  have hz := hz1.trans hz
  have hZ := hZ.r hr5 (by omega)
  refine lv_aload_n hx hb dX2_init_33 rfl (lv_at hl 0 rfl) ?_
  refine lv_bipush (v := 60) hx hb dX2_init_34 (by decide) ?_
  refine w_newa (ty := .int) (n := 6) (q0 := 0) (ki := 11) (N := 60) hx hb rfl (by decide) rfl raI rfl (hts _ ma_int) hK hP hz hS hZ (by decide) (by decide) (by decide) (by decide) (by decide) (by decide) (by decide) dX2_init_36 (fun H hP hz hS hZ => ?_)
  have hP : va_P (dC, dI) vwCl (Wd base cy r5 v2 (7)) H := hP
  have hz : H.size = base + (7) := hz
  have hZ : Zr (7) v2 r5 := hZ
  refine w_pRF (ty := (.array .int)) (C := RX2) (T := TX2) (N := 11) (ci := 2) hx hb hts in2 tyX2 tyX2_ok nmX2 hown hK hP hS 3 (by omega) i2 rfl (by decide) (hts _ mf_X2_26) rfl hin rfl (by decide +kernel) rfl rfl dX2_init_38 (fun r6 H locs hr6 hP hz1 hS => ?_)
  have hz := hz1.trans hz
  have hZ := hZ.r hr6 (by omega)
  refine lv_aload_n hx hb dX2_init_41 rfl (lv_at hl 0 rfl) ?_
  refine lv_bipush (v := 60) hx hb dX2_init_42 (by decide) ?_
  refine w_newa (ty := .int) (n := 7) (q0 := 0) (ki := 11) (N := 60) hx hb rfl (by decide) rfl raI rfl (hts _ ma_int) hK hP hz hS hZ (by decide) (by decide) (by decide) (by decide) (by decide) (by decide) (by decide) dX2_init_44 (fun H hP hz hS hZ => ?_)
  have hP : va_P (dC, dI) vwCl (Wd base cy r6 v2 (8)) H := hP
  have hz : H.size = base + (8) := hz
  have hZ : Zr (8) v2 r6 := hZ
  refine w_pRF (ty := (.array .int)) (C := RX2) (T := TX2) (N := 11) (ci := 2) hx hb hts in2 tyX2 tyX2_ok nmX2 hown hK hP hS 4 (by omega) i2 rfl (by decide) (hts _ mf_X2_29) rfl hin rfl (by decide +kernel) rfl rfl dX2_init_46 (fun r7 H locs hr7 hP hz1 hS => ?_)
  have hz := hz1.trans hz
  have hZ := hZ.r hr7 (by omega)
  refine lv_aload_n hx hb dX2_init_49 rfl (lv_at hl 0 rfl) ?_
  refine lv_bipush (v := 60) hx hb dX2_init_50 (by decide) ?_
  refine w_newa (ty := .int) (n := 8) (q0 := 0) (ki := 11) (N := 60) hx hb rfl (by decide) rfl raI rfl (hts _ ma_int) hK hP hz hS hZ (by decide) (by decide) (by decide) (by decide) (by decide) (by decide) (by decide) dX2_init_52 (fun H hP hz hS hZ => ?_)
  have hP : va_P (dC, dI) vwCl (Wd base cy r7 v2 (9)) H := hP
  have hz : H.size = base + (9) := hz
  have hZ : Zr (9) v2 r7 := hZ
  refine w_pRF (ty := (.array .int)) (C := RX2) (T := TX2) (N := 11) (ci := 2) hx hb hts in2 tyX2 tyX2_ok nmX2 hown hK hP hS 5 (by omega) i2 rfl (by decide) (hts _ mf_X2_32) rfl hin rfl (by decide +kernel) rfl rfl dX2_init_54 (fun r8 H locs hr8 hP hz1 hS => ?_)
  have hz := hz1.trans hz
  have hZ := hZ.r hr8 (by omega)
  refine lv_aload_n hx hb dX2_init_57 rfl (lv_at hl 0 rfl) ?_
  refine lv_iconst (v := 2) hx hb dX2_init_58 (by decide) ?_
  refine w_newa (ty := .int) (n := 9) (q0 := 0) (ki := 11) (N := 2) hx hb rfl (by decide) rfl raI rfl (hts _ ma_int) hK hP hz hS hZ (by decide) (by decide) (by decide) (by decide) (by decide) (by decide) (by decide) dX2_init_59 (fun H hP hz hS hZ => ?_)
  have hP : va_P (dC, dI) vwCl (Wd base cy r8 v2 (10)) H := hP
  have hz : H.size = base + (10) := hz
  have hZ : Zr (10) v2 r8 := hZ
  refine w_pRF (ty := (.array .int)) (C := RX2) (T := TX2) (N := 11) (ci := 2) hx hb hts in2 tyX2 tyX2_ok nmX2 hown hK hP hS 6 (by omega) i2 rfl (by decide) (hts _ mf_X2_35) rfl hin rfl (by decide +kernel) rfl rfl dX2_init_61 (fun r9 H locs hr9 hP hz1 hS => ?_)
  have hz := hz1.trans hz
  have hZ := hZ.r hr9 (by omega)
  refine lv_iconst (v := 0) hx hb dX2_init_64 (by decide) ?_
  refine lv_istore_n (lv' := [(1, .int 0), (0, .ref (base + 1))]) hx hb dX2_init_65 rfl hl (by decide) rfl (fun ls hl => ?_)
  have e0 : ∀ a, a ≠ 1 → r1 a = r a := fun a ha => by rw [hr1]; exact up2_of _ _ _ _ ha
  have e1 : ∀ a, a ≠ 1 → r9 a = r3 a := fun a ha => by rw [hr9, hr8, hr7, hr6, hr5, hr4, up2_of _ _ _ _ ha, up2_of _ _ _ _ ha, up2_of _ _ _ _ ha, up2_of _ _ _ _ ha, up2_of _ _ _ _ ha, up2_of _ _ _ _ ha]
  have e2 : ∀ k, r9 1 k = rf 1 k := fun k => bt_Net1 hr0 (hr1) (B0.1 1 (by omega)).2 (by rw [hr9, hr8, hr7, hr6, hr5, hr4]) k
  have e3 : ∀ j, r9 2 j = if j < 0 then some (10 + 2 * j) else none := fun j => by
    rw [e1 2 (by decide), (B0.1 2 (by omega)).2, e0 2 (by decide), (hZ0 2 (by omega)).2]; rfl
  refine W.widen (k := 8 + 2 * 0) (n := 522 + 24 * 0) (by decide) (by decide) ?_
  refine lc2 hx hb hml hown hts hK hX ⟨by decide, by decide⟩ ⟨by decide, by decide⟩ (v1 := v2) (r1 := r9) ((e2 0).trans (by simp [rf, i2.2])) (fun w r9 H locs ls hI hl hP hz hS => ?_) 257 0 v2 r9 _ _ _ (by omega) (by omega) ⟨fun _ _ => ⟨rfl, fun _ => rfl⟩, e3, fun a h1 h2 => absurd h2 (by omega), hZ⟩ (lv_sub hl [0, 1] rfl) hP hz hS
  have hZ := hI.2.2.2
  have hBt : Bt 1 522 v r w r9 := bt_Net hZ0 hv0 B0 e0 e1 e2 hI
  refine W.widen (k := 520) (n := 6666) (by decide) (by decide) ?_
  exact W.vret hx hb hr (fun t ht hW => ⟨⟨(w, r9), rfl, hBt, by rw [ht]; exact hz, by rw [ht]; exact hP, va_K.moved hW.alike hK, hX.warm hW⟩, hS.F ht⟩) hS.2.2 dX2_init_92
