theorem rf10 (k : Nat) : rf 816 k = rfM.getD k none := by simp only [rf, i10.2]
theorem gst {r r1 : RR} {a kk t : Nat} (h : ∀ k, r 816 k = if k < a then rfM.getD k none else none) (hr : r1 = up2 r 816 kk (some t)) (hk : a ≤ kk) (h1 : rfM.getD kk none = some t) (h2 : ∀ k, k < kk → a ≤ k → rfM.getD k none = none) : ∀ k, r1 816 k = if k < kk + 1 then rfM.getD k none else none := by
  intro k
  rw [hr]
  by_cases e : k = kk
  · rw [e, up2_s, if_pos (by omega), h1]
  · rw [up2_k _ _ _ _ e, h k]
    by_cases e1 : k < a
    · rw [if_pos e1, if_pos (by omega)]
    · rw [if_neg e1]
      by_cases e2 : k < kk + 1
      · rw [if_pos e2, h2 k (by omega) (by omega)]
      · rw [if_neg e2]
def I10 (v1 : VV) (r1 : RR) (i : Nat) (v : VV) (r : RR) : Prop := (∀ a, a ≠ 848 → v a = v1 a) ∧ (∀ k, v 848 k = if k < i then -1 else 0) ∧ r = r1 ∧ Zr 874 v r
theorem kM11 : ∀ a, a < 874 → 816 < a → kd a = 11 ∨ kd a = 12 ∨ kd a = 8 := by decide +kernel
theorem iv_m {a : Nat} (h : 816 ≤ a ∧ a < 874) (h1 : a ≠ 821) (h2 : a ≠ 859) (h3 : a ≠ 848) : iv a = z0 := by
  funext k
  simp [iv, kdM a h.2 h.1, h1, h2, h3, z0]
theorem two1 {f : Nat → Int32} {v v1 v2 : VV} {o : Nat} (h0 : v o = z0) (h1 : v1 = up2 v o 0 (-1)) (h2 : v2 = up2 v1 o 1 (-1)) (k : Nat) : v2 o k = if k < 2 then -1 else 0 := by
  rw [h2]
  by_cases k1 : k = 1
  · rw [k1, up2_s, if_pos (by decide)]
  rw [up2_k _ _ _ _ k1, h1]
  by_cases k0 : k = 0
  · rw [k0, up2_s, if_pos (by decide)]
  rw [up2_k _ _ _ _ k0, h0, if_neg (by omega)]
  rfl
set_option maxHeartbeats 4000000 in
set_option maxRecDepth 100000 in
/-- the loop of the twin's constructor -/
theorem lc10 {p : Program} {l : Launch} {e : Env} {R : Room} {s : State} {m : MethodId} {args : Array Value} {below : List Frame} {meth : Method} {c : Code} {Q : State → Prop} {dC : Nat → ClassId} {dI : Nat → Nat → Nat} {base : Nat} {cy : Nat → ClassId} {H0 : Heap} (hx : p.tables.exec = Jvm.exec) (hb : c.code = cX10_init) (hml : c.maxLocals = 2) (hown : s.vm.findClass RX10 = some m.cls) (hts : ∀ w ∈ TB, w.before args s = true) (hK : va_K (dC, dI) vwCl (tyL cy) s) (hX : Kx s) {v1 : VV} {r1 : RR} (hr1 : r1 816 32 = some 848) (hex : ∀ (v : VV) (r : RR) (H : Heap) (locs : List Loc) (ls : Array Slot), I10 v1 r1 256 v r → lv_has ls 2 [(0, .ref (base + 816))] → va_P (dC, dI) vwCl (Wd base cy r v (874)) H → H.size = base + (874) → va_S (fun q => base ≤ q) H0 H locs → W p l e R s m args below meth c H locs (57) (133338) Q (F0 m 482 ls [])) : ∀ (k i : Nat) (v : VV) (r : RR) (H : Heap) (locs : List Loc) (ls : Array Slot), i ≤ 256 → 256 + 1 ≤ i + k → I10 v1 r1 i v r → lv_has ls 2 [(1, .int (nI i)), (0, .ref (base + 816))] → va_P (dC, dI) vwCl (Wd base cy r v (874)) H → H.size = base + (874) → va_S (fun q => base ≤ q) H0 H locs → W p l e R s m args below meth c H locs (57) (133338) Q (F0 m 462 ls []) := by
  intro k
  induction k with
  | zero =>
    intro i v r H locs ls hi hk hI hl hP hz hS
    omega
  | succ k ih =>
    intro i v r H locs ls hi hk hI hl hP hz hS
    refine lv_iload_n hx hb dX10_init_462 rfl (lv_at hl 0 rfl) ?_
    refine lv_sipush (v := 256) hx hb dX10_init_463 (by decide) ?_
    refine lv_icmp_ge (tgt := 482) hx hb dX10_init_466 (by decide) (fun c466 => ?_) (fun c466 => ?_)
    · have i40 : i = 256 := by
        have := nI_lit_le (n := 256) (a := i) rfl c466 (by omega) (by decide)
        omega
      subst i40
      exact hex v r _ _ _ hI (lv_sub hl [1] rfl) hP hz hS
    · have hi2 : i < 256 := nI_nlit_le (n := 256) rfl c466 (by omega) (by decide)
      obtain ⟨J1, J2, J3, hZ⟩ := hI
      refine lv_aload_n hx hb dX10_init_469 rfl (lv_at hl 1 rfl) ?_
      have q1 := ch10_32 i10
      refine w_gR (C := RX10) (T := TX10) (N := 64) (ci := 10) hx hb hts in10 hown hK hP 32 (by omega) i10 rfl (by decide) (by rw [J3]; exact hr1) (hts _ mf_X10_104) dX10_init_470 ?_
      refine lv_iload_n hx hb dX10_init_473 rfl (lv_at hl 0 rfl) ?_
      refine lv_iconst (v := -1) hx hb dX10_init_474 (by decide) ?_
      refine w_is (N := 256) hx hb hK hP hS (by omega) (q1.2.1) (q1.2.2) (vp_in_nI hi2 (by decide)) dX10_init_475 (fun v2 H locs hv2 hP hz1 hS => ?_)
      have hz := hz1.trans hz
      have hZ := hZ.v hv2 (by omega)
      obtain ⟨x476, ex476⟩ : ∃ y : Int32, y = (nI i) + 1 := ⟨_, rfl⟩
      refine lv_iinc (v := x476) (lv' := [(1, .int x476), (0, .ref (base + 816))]) hx hb dX10_init_476 hl (k := 0) rfl (by rw [ex476]; first | rfl | (rw [show Int32.ofInt (-1) = (-1 : Int32) from by decide])) (by decide) rfl (fun ls hl => ?_)
      refine lv_goto (tgt := 462) hx hb dX10_init_479 (by decide) ?_
      refine ih (i + 1) v2 r _ _ _ (by omega) (by omega) ⟨fun a ha => ?_, fun k => ?_, J3, hZ⟩ (by rw [← nI_1 i, ← ex476]; exact lv_sub hl [0, 1] rfl) hP hz hS
      · rw [hv2, up2_of _ _ _ _ ha]; exact J1 a ha
      · rw [hv2, nI_clamp (by omega)]
        by_cases hk9 : k = i
        · rw [hk9, up2_s, if_pos (by omega)]
        · rw [up2_k _ _ _ _ hk9, J2 k]
          by_cases h9 : k < i
          · rw [if_pos h9, if_pos (by omega)]
          · rw [if_neg h9, if_neg (by omega)]
set_option maxHeartbeats 4000000 in
set_option maxRecDepth 100000 in
/-- TransportFourModel() -/
theorem ct10 (l : Launch) (dC : Nat → ClassId) (dI : Nat → Nat → Nat) (base : Nat) (cy : Nat → ClassId) (v : VV) (r : RR) (hZ0 : Zr 817 v r) (hv0 : v 816 = z0) (hr0 : r 816 = n0) : CC l yX10_init (.code yX10_init cX10_init 2 none :: TB) { frames := 1, cells := 57, slots := 133338, locals := 12 } dC dI base cy [.ref (base + 816)] (817) v r (874) 57 133338 (fun v' r' => Bt 816 874 v r v' r') := by
  refine Met.ofW (cc := cX10_init) (maxL := 2) (ret := none) (by decide) rfl ?_
  intro p e s m args below meth c s₁ B hml hv
  obtain ⟨rfl, hz, hP, hK, hX⟩ := hv
  have hx := B.exec
  have hb := B.bytes
  have hr := B.returns
  have hts0 := atoms_spec (ws := (.code yX10_init cX10_init 2 none :: TB)) B.pre
  have hts : ∀ w ∈ TB, w.before ([.ref (base + 816)]).toArray s = true := fun w h => hts0 w (List.mem_cons_of_mem _ h)
  have hown : s.vm.findClass RX10 = some m.cls := findClass_of_methodNamed B.named
  have hlocks := B.notSynchronized
  have hin : meth.name = "<init>" := (name_of_methodNamed B.named B.method).1
  have hS : va_S (fun q => base ≤ q) s.heap s.heap [] := va_S.rf
  have hZ := hZ0
  have hl := lv_entry ([.ref (base + 816)]) (n := 2) (Nat.le_of_ble_eq_true rfl)
  rw [lg_entry_eq]
  generalize (lg_sl ([.ref (base + 816)]) ++ List.replicate (2 - (lg_sl ([.ref (base + 816)])).length) Slot.unset).toArray = ls at hl ⊢
  have hl : lv_has ls 2 [(0, .ref (base + 816))] := hl
  have g : ∀ k, r 816 k = if k < 0 then rfM.getD k none else none := fun k => by rw [hr0]; rfl
  have ge : ∀ a, a ≠ 816 → r a = r a := fun _ _ => rfl
  have gv : ∀ a, a ≠ 821 → a ≠ 859 → v a = v a := fun _ _ _ => rfl
  refine lv_aload_n hx hb dX10_init_0 rfl (lv_at hl 0 rfl) ?_
  refine W.objInit hx hb hown (hts _ ml_X10_1) (hts _ mi_obj) (hts _ mo_obj) rfl (by rw [hml]; exact hl.1) rfl dX10_init_1 (Nat.le_of_ble_eq_true rfl) (Nat.le_of_ble_eq_true rfl) ?_
  refine W.eq (g2 := F0 m 4 ls []) rfl ?_
  refine lv_aload_n hx hb dX10_init_4 rfl (lv_at hl 0 rfl) ?_
  refine lv_iconst (v := 2) hx hb dX10_init_5 (by decide) ?_
  refine w_newa (ty := .int) (n := 817) (q0 := 0) (ki := 11) (N := 2) hx hb rfl (by decide) rfl raI rfl (hts _ ma_int) hK hP hz hS hZ (by decide) (by decide) (by decide) (by decide) (by decide) (by decide) (by decide) dX10_init_6 (fun H hP hz hS hZ => ?_)
  have hP : va_P (dC, dI) vwCl (Wd base cy r v (818)) H := hP
  have hz : H.size = base + (818) := hz
  have hZ : Zr (818) v r := hZ
  refine W.widen (k := 1) (n := 2) (by decide) (by decide) ?_
  refine w_pRF (ty := (.array .int)) (C := RX10) (T := TX10) (N := 64) (ci := 10) hx hb hts in10 tyX10 tyX10_ok nmX10 hown hK hP hS 1 (by omega) i10 rfl (by decide) (hts _ mf_X10_7) rfl hin rfl (by decide +kernel) rfl rfl dX10_init_8 (fun r1 H locs hr1 hP hz1 hS => ?_)
  have hz := hz1.trans hz
  have hZ := hZ.r hr1 (by omega)
  have g := gst g hr1 (by decide) (by decide) (by decide)
  have ge : ∀ a, a ≠ 816 → r1 a = r a := fun a ha => by rw [hr1]; exact (up2_of _ _ _ _ ha).trans (ge a ha)
  refine lv_aload_n hx hb dX10_init_11 rfl (lv_at hl 0 rfl) ?_
  refine lv_iconst (v := 2) hx hb dX10_init_12 (by decide) ?_
  refine w_newa (ty := .int) (n := 818) (q0 := 0) (ki := 11) (N := 2) hx hb rfl (by decide) rfl raI rfl (hts _ ma_int) hK hP hz hS hZ (by decide) (by decide) (by decide) (by decide) (by decide) (by decide) (by decide) dX10_init_13 (fun H hP hz hS hZ => ?_)
  have hP : va_P (dC, dI) vwCl (Wd base cy r1 v (819)) H := hP
  have hz : H.size = base + (819) := hz
  have hZ : Zr (819) v r1 := hZ
  refine W.widen (k := 2) (n := 4) (by decide) (by decide) ?_
  refine w_pRF (ty := (.array .int)) (C := RX10) (T := TX10) (N := 64) (ci := 10) hx hb hts in10 tyX10 tyX10_ok nmX10 hown hK hP hS 2 (by omega) i10 rfl (by decide) (hts _ mf_X10_13) rfl hin rfl (by decide +kernel) rfl rfl dX10_init_15 (fun r2 H locs hr2 hP hz1 hS => ?_)
  have hz := hz1.trans hz
  have hZ := hZ.r hr2 (by omega)
  have g := gst g hr2 (by decide) (by decide) (by decide)
  have ge : ∀ a, a ≠ 816 → r2 a = r a := fun a ha => by rw [hr2]; exact (up2_of _ _ _ _ ha).trans (ge a ha)
  refine lv_aload_n hx hb dX10_init_18 rfl (lv_at hl 0 rfl) ?_
  refine lv_iconst (v := 2) hx hb dX10_init_19 (by decide) ?_
  refine w_newa (ty := .int) (n := 819) (q0 := 0) (ki := 11) (N := 2) hx hb rfl (by decide) rfl raI rfl (hts _ ma_int) hK hP hz hS hZ (by decide) (by decide) (by decide) (by decide) (by decide) (by decide) (by decide) dX10_init_20 (fun H hP hz hS hZ => ?_)
  have hP : va_P (dC, dI) vwCl (Wd base cy r2 v (820)) H := hP
  have hz : H.size = base + (820) := hz
  have hZ : Zr (820) v r2 := hZ
  refine W.widen (k := 3) (n := 6) (by decide) (by decide) ?_
  refine w_pRF (ty := (.array .int)) (C := RX10) (T := TX10) (N := 64) (ci := 10) hx hb hts in10 tyX10 tyX10_ok nmX10 hown hK hP hS 3 (by omega) i10 rfl (by decide) (hts _ mf_X10_16) rfl hin rfl (by decide +kernel) rfl rfl dX10_init_22 (fun r3 H locs hr3 hP hz1 hS => ?_)
  have hz := hz1.trans hz
  have hZ := hZ.r hr3 (by omega)
  have g := gst g hr3 (by decide) (by decide) (by decide)
  have ge : ∀ a, a ≠ 816 → r3 a = r a := fun a ha => by rw [hr3]; exact (up2_of _ _ _ _ ha).trans (ge a ha)
  refine lv_aload_n hx hb dX10_init_25 rfl (lv_at hl 0 rfl) ?_
  refine lv_iconst (v := 2) hx hb dX10_init_26 (by decide) ?_
  refine w_newa (ty := .boolean) (n := 820) (q0 := 1) (ki := 12) (N := 2) hx hb rfl (by decide) rfl raZ rfl (hts _ ma_boolean) hK hP hz hS hZ (by decide) (by decide) (by decide) (by decide) (by decide) (by decide) (by decide) dX10_init_27 (fun H hP hz hS hZ => ?_)
  have hP : va_P (dC, dI) vwCl (Wd base cy r3 v (821)) H := hP
  have hz : H.size = base + (821) := hz
  have hZ : Zr (821) v r3 := hZ
  refine W.widen (k := 4) (n := 8) (by decide) (by decide) ?_
  refine w_pRF (ty := (.array .boolean)) (C := RX10) (T := TX10) (N := 64) (ci := 10) hx hb hts in10 tyX10 tyX10_ok nmX10 hown hK hP hS 4 (by omega) i10 rfl (by decide) (hts _ mf_X10_19) rfl hin rfl (by decide +kernel) rfl rfl dX10_init_29 (fun r4 H locs hr4 hP hz1 hS => ?_)
  have hz := hz1.trans hz
  have hZ := hZ.r hr4 (by omega)
  have g := gst g hr4 (by decide) (by decide) (by decide)
  have ge : ∀ a, a ≠ 816 → r4 a = r a := fun a ha => by rw [hr4]; exact (up2_of _ _ _ _ ha).trans (ge a ha)
  refine lv_aload_n hx hb dX10_init_32 rfl (lv_at hl 0 rfl) ?_
  refine lv_iconst (v := 2) hx hb dX10_init_33 (by decide) ?_
  refine w_newa (ty := .int) (n := 821) (q0 := 0) (ki := 11) (N := 2) hx hb rfl (by decide) rfl raI rfl (hts _ ma_int) hK hP hz hS hZ (by decide) (by decide) (by decide) (by decide) (by decide) (by decide) (by decide) dX10_init_34 (fun H hP hz hS hZ => ?_)
  have hP : va_P (dC, dI) vwCl (Wd base cy r4 v (822)) H := hP
  have hz : H.size = base + (822) := hz
  have hZ : Zr (822) v r4 := hZ
  refine W.widen (k := 5) (n := 10) (by decide) (by decide) ?_
  refine lv_dup hx hb dX10_init_36 rfl ?_
  refine lv_iconst (v := 0) hx hb dX10_init_37 (by decide) ?_
  refine lv_iconst (v := -1) hx hb dX10_init_38 (by decide) ?_
  refine w_is (N := 2) hx hb hK hP hS (by omega) (by decide) (by decide) (vp_in_nI (n := 0) (by decide) (by decide)) dX10_init_39 (fun v5 H locs hv5 hP hz1 hS => ?_)
  have hz := hz1.trans hz
  have hZ := hZ.v hv5 (by omega)
  have gv : ∀ a, a ≠ 821 → a ≠ 859 → v5 a = v a := fun a h1 h2 => by rw [hv5]; exact (up2_of _ _ _ _ (by omega)).trans (gv a h1 h2)
  refine lv_dup hx hb dX10_init_40 rfl ?_
  refine lv_iconst (v := 1) hx hb dX10_init_41 (by decide) ?_
  refine lv_iconst (v := -1) hx hb dX10_init_42 (by decide) ?_
  refine w_is (N := 2) hx hb hK hP hS (by omega) (by decide) (by decide) (vp_in_nI (n := 1) (by decide) (by decide)) dX10_init_43 (fun v6 H locs hv6 hP hz1 hS => ?_)
  have hz := hz1.trans hz
  have hZ := hZ.v hv6 (by omega)
  have gv : ∀ a, a ≠ 821 → a ≠ 859 → v6 a = v a := fun a h1 h2 => by rw [hv6]; exact (up2_of _ _ _ _ (by omega)).trans (gv a h1 h2)
  have G821 : ∀ k, v6 821 k = if k < 2 then -1 else 0 := two1 (f := z0) (v := v) ((hZ0 821 (by omega)).1) hv5 hv6
  refine w_pRF (ty := (.array .int)) (C := RX10) (T := TX10) (N := 64) (ci := 10) hx hb hts in10 tyX10 tyX10_ok nmX10 hown hK hP hS 5 (by omega) i10 rfl (by decide) (hts _ mf_X10_23) rfl hin rfl (by decide +kernel) rfl rfl dX10_init_44 (fun r7 H locs hr7 hP hz1 hS => ?_)
  have hz := hz1.trans hz
  have hZ := hZ.r hr7 (by omega)
  have g := gst g hr7 (by decide) (by decide) (by decide)
  have ge : ∀ a, a ≠ 816 → r7 a = r a := fun a ha => by rw [hr7]; exact (up2_of _ _ _ _ ha).trans (ge a ha)
  refine lv_aload_n hx hb dX10_init_47 rfl (lv_at hl 0 rfl) ?_
  refine lv_iconst (v := 2) hx hb dX10_init_48 (by decide) ?_
  refine w_newa (ty := .int) (n := 822) (q0 := 0) (ki := 11) (N := 2) hx hb rfl (by decide) rfl raI rfl (hts _ ma_int) hK hP hz hS hZ (by decide) (by decide) (by decide) (by decide) (by decide) (by decide) (by decide) dX10_init_49 (fun H hP hz hS hZ => ?_)
  have hP : va_P (dC, dI) vwCl (Wd base cy r7 v6 (823)) H := hP
  have hz : H.size = base + (823) := hz
  have hZ : Zr (823) v6 r7 := hZ
  refine W.widen (k := 6) (n := 12) (by decide) (by decide) ?_
  refine w_pRF (ty := (.array .int)) (C := RX10) (T := TX10) (N := 64) (ci := 10) hx hb hts in10 tyX10 tyX10_ok nmX10 hown hK hP hS 6 (by omega) i10 rfl (by decide) (hts _ mf_X10_26) rfl hin rfl (by decide +kernel) rfl rfl dX10_init_51 (fun r8 H locs hr8 hP hz1 hS => ?_)
  have hz := hz1.trans hz
  have hZ := hZ.r hr8 (by omega)
  have g := gst g hr8 (by decide) (by decide) (by decide)
  have ge : ∀ a, a ≠ 816 → r8 a = r a := fun a ha => by rw [hr8]; exact (up2_of _ _ _ _ ha).trans (ge a ha)
  refine lv_aload_n hx hb dX10_init_54 rfl (lv_at hl 0 rfl) ?_
  refine lv_iconst (v := 2) hx hb dX10_init_55 (by decide) ?_
  refine w_newa (ty := .int) (n := 823) (q0 := 0) (ki := 11) (N := 2) hx hb rfl (by decide) rfl raI rfl (hts _ ma_int) hK hP hz hS hZ (by decide) (by decide) (by decide) (by decide) (by decide) (by decide) (by decide) dX10_init_56 (fun H hP hz hS hZ => ?_)
  have hP : va_P (dC, dI) vwCl (Wd base cy r8 v6 (824)) H := hP
  have hz : H.size = base + (824) := hz
  have hZ : Zr (824) v6 r8 := hZ
  refine W.widen (k := 7) (n := 14) (by decide) (by decide) ?_
  refine w_pRF (ty := (.array .int)) (C := RX10) (T := TX10) (N := 64) (ci := 10) hx hb hts in10 tyX10 tyX10_ok nmX10 hown hK hP hS 7 (by omega) i10 rfl (by decide) (hts _ mf_X10_29) rfl hin rfl (by decide +kernel) rfl rfl dX10_init_58 (fun r9 H locs hr9 hP hz1 hS => ?_)
  have hz := hz1.trans hz
  have hZ := hZ.r hr9 (by omega)
  have g := gst g hr9 (by decide) (by decide) (by decide)
  have ge : ∀ a, a ≠ 816 → r9 a = r a := fun a ha => by rw [hr9]; exact (up2_of _ _ _ _ ha).trans (ge a ha)
  refine lv_aload_n hx hb dX10_init_61 rfl (lv_at hl 0 rfl) ?_
  refine lv_iconst (v := 2) hx hb dX10_init_62 (by decide) ?_
  refine w_newa (ty := .int) (n := 824) (q0 := 0) (ki := 11) (N := 2) hx hb rfl (by decide) rfl raI rfl (hts _ ma_int) hK hP hz hS hZ (by decide) (by decide) (by decide) (by decide) (by decide) (by decide) (by decide) dX10_init_63 (fun H hP hz hS hZ => ?_)
  have hP : va_P (dC, dI) vwCl (Wd base cy r9 v6 (825)) H := hP
  have hz : H.size = base + (825) := hz
  have hZ : Zr (825) v6 r9 := hZ
  refine W.widen (k := 8) (n := 16) (by decide) (by decide) ?_
  refine w_pRF (ty := (.array .int)) (C := RX10) (T := TX10) (N := 64) (ci := 10) hx hb hts in10 tyX10 tyX10_ok nmX10 hown hK hP hS 8 (by omega) i10 rfl (by decide) (hts _ mf_X10_32) rfl hin rfl (by decide +kernel) rfl rfl dX10_init_65 (fun r10 H locs hr10 hP hz1 hS => ?_)
  have hz := hz1.trans hz
  have hZ := hZ.r hr10 (by omega)
  have g := gst g hr10 (by decide) (by decide) (by decide)
  have ge : ∀ a, a ≠ 816 → r10 a = r a := fun a ha => by rw [hr10]; exact (up2_of _ _ _ _ ha).trans (ge a ha)
  refine lv_aload_n hx hb dX10_init_68 rfl (lv_at hl 0 rfl) ?_
  refine lv_iconst (v := 2) hx hb dX10_init_69 (by decide) ?_
  refine w_newa (ty := .int) (n := 825) (q0 := 0) (ki := 11) (N := 2) hx hb rfl (by decide) rfl raI rfl (hts _ ma_int) hK hP hz hS hZ (by decide) (by decide) (by decide) (by decide) (by decide) (by decide) (by decide) dX10_init_70 (fun H hP hz hS hZ => ?_)
  have hP : va_P (dC, dI) vwCl (Wd base cy r10 v6 (826)) H := hP
  have hz : H.size = base + (826) := hz
  have hZ : Zr (826) v6 r10 := hZ
  refine W.widen (k := 9) (n := 18) (by decide) (by decide) ?_
  refine w_pRF (ty := (.array .int)) (C := RX10) (T := TX10) (N := 64) (ci := 10) hx hb hts in10 tyX10 tyX10_ok nmX10 hown hK hP hS 9 (by omega) i10 rfl (by decide) (hts _ mf_X10_35) rfl hin rfl (by decide +kernel) rfl rfl dX10_init_72 (fun r11 H locs hr11 hP hz1 hS => ?_)
  have hz := hz1.trans hz
  have hZ := hZ.r hr11 (by omega)
  have g := gst g hr11 (by decide) (by decide) (by decide)
  have ge : ∀ a, a ≠ 816 → r11 a = r a := fun a ha => by rw [hr11]; exact (up2_of _ _ _ _ ha).trans (ge a ha)
  refine lv_aload_n hx hb dX10_init_75 rfl (lv_at hl 0 rfl) ?_
  refine lv_iconst (v := 2) hx hb dX10_init_76 (by decide) ?_
  refine w_newa (ty := .int) (n := 826) (q0 := 0) (ki := 11) (N := 2) hx hb rfl (by decide) rfl raI rfl (hts _ ma_int) hK hP hz hS hZ (by decide) (by decide) (by decide) (by decide) (by decide) (by decide) (by decide) dX10_init_77 (fun H hP hz hS hZ => ?_)
  have hP : va_P (dC, dI) vwCl (Wd base cy r11 v6 (827)) H := hP
  have hz : H.size = base + (827) := hz
  have hZ : Zr (827) v6 r11 := hZ
  refine W.widen (k := 10) (n := 20) (by decide) (by decide) ?_
  refine w_pRF (ty := (.array .int)) (C := RX10) (T := TX10) (N := 64) (ci := 10) hx hb hts in10 tyX10 tyX10_ok nmX10 hown hK hP hS 10 (by omega) i10 rfl (by decide) (hts _ mf_X10_38) rfl hin rfl (by decide +kernel) rfl rfl dX10_init_79 (fun r12 H locs hr12 hP hz1 hS => ?_)
  have hz := hz1.trans hz
  have hZ := hZ.r hr12 (by omega)
  have g := gst g hr12 (by decide) (by decide) (by decide)
  have ge : ∀ a, a ≠ 816 → r12 a = r a := fun a ha => by rw [hr12]; exact (up2_of _ _ _ _ ha).trans (ge a ha)
  refine lv_aload_n hx hb dX10_init_82 rfl (lv_at hl 0 rfl) ?_
  refine lv_iconst (v := 2) hx hb dX10_init_83 (by decide) ?_
  refine w_newa (ty := .int) (n := 827) (q0 := 0) (ki := 11) (N := 2) hx hb rfl (by decide) rfl raI rfl (hts _ ma_int) hK hP hz hS hZ (by decide) (by decide) (by decide) (by decide) (by decide) (by decide) (by decide) dX10_init_84 (fun H hP hz hS hZ => ?_)
  have hP : va_P (dC, dI) vwCl (Wd base cy r12 v6 (828)) H := hP
  have hz : H.size = base + (828) := hz
  have hZ : Zr (828) v6 r12 := hZ
  refine W.widen (k := 11) (n := 22) (by decide) (by decide) ?_
  refine w_pRF (ty := (.array .int)) (C := RX10) (T := TX10) (N := 64) (ci := 10) hx hb hts in10 tyX10 tyX10_ok nmX10 hown hK hP hS 11 (by omega) i10 rfl (by decide) (hts _ mf_X10_41) rfl hin rfl (by decide +kernel) rfl rfl dX10_init_86 (fun r13 H locs hr13 hP hz1 hS => ?_)
  have hz := hz1.trans hz
  have hZ := hZ.r hr13 (by omega)
  have g := gst g hr13 (by decide) (by decide) (by decide)
  have ge : ∀ a, a ≠ 816 → r13 a = r a := fun a ha => by rw [hr13]; exact (up2_of _ _ _ _ ha).trans (ge a ha)
  refine lv_aload_n hx hb dX10_init_89 rfl (lv_at hl 0 rfl) ?_
  refine lv_bipush (v := 40) hx hb dX10_init_90 (by decide) ?_
  refine w_newa (ty := .int) (n := 828) (q0 := 0) (ki := 11) (N := 40) hx hb rfl (by decide) rfl raI rfl (hts _ ma_int) hK hP hz hS hZ (by decide) (by decide) (by decide) (by decide) (by decide) (by decide) (by decide) dX10_init_92 (fun H hP hz hS hZ => ?_)
  have hP : va_P (dC, dI) vwCl (Wd base cy r13 v6 (829)) H := hP
  have hz : H.size = base + (829) := hz
  have hZ : Zr (829) v6 r13 := hZ
  refine W.widen (k := 12) (n := 62) (by decide) (by decide) ?_
  refine w_pRF (ty := (.array .int)) (C := RX10) (T := TX10) (N := 64) (ci := 10) hx hb hts in10 tyX10 tyX10_ok nmX10 hown hK hP hS 12 (by omega) i10 rfl (by decide) (hts _ mf_X10_44) rfl hin rfl (by decide +kernel) rfl rfl dX10_init_94 (fun r14 H locs hr14 hP hz1 hS => ?_)
  have hz := hz1.trans hz
  have hZ := hZ.r hr14 (by omega)
  have g := gst g hr14 (by decide) (by decide) (by decide)
  have ge : ∀ a, a ≠ 816 → r14 a = r a := fun a ha => by rw [hr14]; exact (up2_of _ _ _ _ ha).trans (ge a ha)
  refine lv_aload_n hx hb dX10_init_97 rfl (lv_at hl 0 rfl) ?_
  refine lv_iconst (v := 2) hx hb dX10_init_98 (by decide) ?_
  refine w_newa (ty := .int) (n := 829) (q0 := 0) (ki := 11) (N := 2) hx hb rfl (by decide) rfl raI rfl (hts _ ma_int) hK hP hz hS hZ (by decide) (by decide) (by decide) (by decide) (by decide) (by decide) (by decide) dX10_init_99 (fun H hP hz hS hZ => ?_)
  have hP : va_P (dC, dI) vwCl (Wd base cy r14 v6 (830)) H := hP
  have hz : H.size = base + (830) := hz
  have hZ : Zr (830) v6 r14 := hZ
  refine W.widen (k := 13) (n := 64) (by decide) (by decide) ?_
  refine w_pRF (ty := (.array .int)) (C := RX10) (T := TX10) (N := 64) (ci := 10) hx hb hts in10 tyX10 tyX10_ok nmX10 hown hK hP hS 13 (by omega) i10 rfl (by decide) (hts _ mf_X10_47) rfl hin rfl (by decide +kernel) rfl rfl dX10_init_101 (fun r15 H locs hr15 hP hz1 hS => ?_)
  have hz := hz1.trans hz
  have hZ := hZ.r hr15 (by omega)
  have g := gst g hr15 (by decide) (by decide) (by decide)
  have ge : ∀ a, a ≠ 816 → r15 a = r a := fun a ha => by rw [hr15]; exact (up2_of _ _ _ _ ha).trans (ge a ha)
  refine lv_aload_n hx hb dX10_init_104 rfl (lv_at hl 0 rfl) ?_
  refine lv_iconst (v := 2) hx hb dX10_init_105 (by decide) ?_
  refine w_newa (ty := .int) (n := 830) (q0 := 0) (ki := 11) (N := 2) hx hb rfl (by decide) rfl raI rfl (hts _ ma_int) hK hP hz hS hZ (by decide) (by decide) (by decide) (by decide) (by decide) (by decide) (by decide) dX10_init_106 (fun H hP hz hS hZ => ?_)
  have hP : va_P (dC, dI) vwCl (Wd base cy r15 v6 (831)) H := hP
  have hz : H.size = base + (831) := hz
  have hZ : Zr (831) v6 r15 := hZ
  refine W.widen (k := 14) (n := 66) (by decide) (by decide) ?_
  refine w_pRF (ty := (.array .int)) (C := RX10) (T := TX10) (N := 64) (ci := 10) hx hb hts in10 tyX10 tyX10_ok nmX10 hown hK hP hS 14 (by omega) i10 rfl (by decide) (hts _ mf_X10_50) rfl hin rfl (by decide +kernel) rfl rfl dX10_init_108 (fun r16 H locs hr16 hP hz1 hS => ?_)
  have hz := hz1.trans hz
  have hZ := hZ.r hr16 (by omega)
  have g := gst g hr16 (by decide) (by decide) (by decide)
  have ge : ∀ a, a ≠ 816 → r16 a = r a := fun a ha => by rw [hr16]; exact (up2_of _ _ _ _ ha).trans (ge a ha)
  refine lv_aload_n hx hb dX10_init_111 rfl (lv_at hl 0 rfl) ?_
  refine lv_iconst (v := 2) hx hb dX10_init_112 (by decide) ?_
  refine w_newa (ty := .int) (n := 831) (q0 := 0) (ki := 11) (N := 2) hx hb rfl (by decide) rfl raI rfl (hts _ ma_int) hK hP hz hS hZ (by decide) (by decide) (by decide) (by decide) (by decide) (by decide) (by decide) dX10_init_113 (fun H hP hz hS hZ => ?_)
  have hP : va_P (dC, dI) vwCl (Wd base cy r16 v6 (832)) H := hP
  have hz : H.size = base + (832) := hz
  have hZ : Zr (832) v6 r16 := hZ
  refine W.widen (k := 15) (n := 68) (by decide) (by decide) ?_
  refine w_pRF (ty := (.array .int)) (C := RX10) (T := TX10) (N := 64) (ci := 10) hx hb hts in10 tyX10 tyX10_ok nmX10 hown hK hP hS 15 (by omega) i10 rfl (by decide) (hts _ mf_X10_53) rfl hin rfl (by decide +kernel) rfl rfl dX10_init_115 (fun r17 H locs hr17 hP hz1 hS => ?_)
  have hz := hz1.trans hz
  have hZ := hZ.r hr17 (by omega)
  have g := gst g hr17 (by decide) (by decide) (by decide)
  have ge : ∀ a, a ≠ 816 → r17 a = r a := fun a ha => by rw [hr17]; exact (up2_of _ _ _ _ ha).trans (ge a ha)
  refine lv_aload_n hx hb dX10_init_118 rfl (lv_at hl 0 rfl) ?_
  refine lv_bipush (v := 80) hx hb dX10_init_119 (by decide) ?_
  refine w_newa (ty := .int) (n := 832) (q0 := 0) (ki := 11) (N := 80) hx hb rfl (by decide) rfl raI rfl (hts _ ma_int) hK hP hz hS hZ (by decide) (by decide) (by decide) (by decide) (by decide) (by decide) (by decide) dX10_init_121 (fun H hP hz hS hZ => ?_)
  have hP : va_P (dC, dI) vwCl (Wd base cy r17 v6 (833)) H := hP
  have hz : H.size = base + (833) := hz
  have hZ : Zr (833) v6 r17 := hZ
  refine W.widen (k := 16) (n := 148) (by decide) (by decide) ?_
  refine w_pRF (ty := (.array .int)) (C := RX10) (T := TX10) (N := 64) (ci := 10) hx hb hts in10 tyX10 tyX10_ok nmX10 hown hK hP hS 16 (by omega) i10 rfl (by decide) (hts _ mf_X10_56) rfl hin rfl (by decide +kernel) rfl rfl dX10_init_123 (fun r18 H locs hr18 hP hz1 hS => ?_)
  have hz := hz1.trans hz
  have hZ := hZ.r hr18 (by omega)
  have g := gst g hr18 (by decide) (by decide) (by decide)
  have ge : ∀ a, a ≠ 816 → r18 a = r a := fun a ha => by rw [hr18]; exact (up2_of _ _ _ _ ha).trans (ge a ha)
  refine lv_aload_n hx hb dX10_init_126 rfl (lv_at hl 0 rfl) ?_
  refine lv_bipush (v := 80) hx hb dX10_init_127 (by decide) ?_
  refine w_newa (ty := .boolean) (n := 833) (q0 := 1) (ki := 12) (N := 80) hx hb rfl (by decide) rfl raZ rfl (hts _ ma_boolean) hK hP hz hS hZ (by decide) (by decide) (by decide) (by decide) (by decide) (by decide) (by decide) dX10_init_129 (fun H hP hz hS hZ => ?_)
  have hP : va_P (dC, dI) vwCl (Wd base cy r18 v6 (834)) H := hP
  have hz : H.size = base + (834) := hz
  have hZ : Zr (834) v6 r18 := hZ
  refine W.widen (k := 17) (n := 228) (by decide) (by decide) ?_
  refine w_pRF (ty := (.array .boolean)) (C := RX10) (T := TX10) (N := 64) (ci := 10) hx hb hts in10 tyX10 tyX10_ok nmX10 hown hK hP hS 17 (by omega) i10 rfl (by decide) (hts _ mf_X10_59) rfl hin rfl (by decide +kernel) rfl rfl dX10_init_131 (fun r19 H locs hr19 hP hz1 hS => ?_)
  have hz := hz1.trans hz
  have hZ := hZ.r hr19 (by omega)
  have g := gst g hr19 (by decide) (by decide) (by decide)
  have ge : ∀ a, a ≠ 816 → r19 a = r a := fun a ha => by rw [hr19]; exact (up2_of _ _ _ _ ha).trans (ge a ha)
  refine lv_aload_n hx hb dX10_init_134 rfl (lv_at hl 0 rfl) ?_
  refine lv_bipush (v := 80) hx hb dX10_init_135 (by decide) ?_
  refine w_newa (ty := .int) (n := 834) (q0 := 0) (ki := 11) (N := 80) hx hb rfl (by decide) rfl raI rfl (hts _ ma_int) hK hP hz hS hZ (by decide) (by decide) (by decide) (by decide) (by decide) (by decide) (by decide) dX10_init_137 (fun H hP hz hS hZ => ?_)
  have hP : va_P (dC, dI) vwCl (Wd base cy r19 v6 (835)) H := hP
  have hz : H.size = base + (835) := hz
  have hZ : Zr (835) v6 r19 := hZ
  refine W.widen (k := 18) (n := 308) (by decide) (by decide) ?_
  refine w_pRF (ty := (.array .int)) (C := RX10) (T := TX10) (N := 64) (ci := 10) hx hb hts in10 tyX10 tyX10_ok nmX10 hown hK hP hS 18 (by omega) i10 rfl (by decide) (hts _ mf_X10_62) rfl hin rfl (by decide +kernel) rfl rfl dX10_init_139 (fun r20 H locs hr20 hP hz1 hS => ?_)
  have hz := hz1.trans hz
  have hZ := hZ.r hr20 (by omega)
  have g := gst g hr20 (by decide) (by decide) (by decide)
  have ge : ∀ a, a ≠ 816 → r20 a = r a := fun a ha => by rw [hr20]; exact (up2_of _ _ _ _ ha).trans (ge a ha)
  refine lv_aload_n hx hb dX10_init_142 rfl (lv_at hl 0 rfl) ?_
  refine lv_bipush (v := 80) hx hb dX10_init_143 (by decide) ?_
  refine w_newa (ty := .int) (n := 835) (q0 := 0) (ki := 11) (N := 80) hx hb rfl (by decide) rfl raI rfl (hts _ ma_int) hK hP hz hS hZ (by decide) (by decide) (by decide) (by decide) (by decide) (by decide) (by decide) dX10_init_145 (fun H hP hz hS hZ => ?_)
  have hP : va_P (dC, dI) vwCl (Wd base cy r20 v6 (836)) H := hP
  have hz : H.size = base + (836) := hz
  have hZ : Zr (836) v6 r20 := hZ
  refine W.widen (k := 19) (n := 388) (by decide) (by decide) ?_
  refine w_pRF (ty := (.array .int)) (C := RX10) (T := TX10) (N := 64) (ci := 10) hx hb hts in10 tyX10 tyX10_ok nmX10 hown hK hP hS 19 (by omega) i10 rfl (by decide) (hts _ mf_X10_65) rfl hin rfl (by decide +kernel) rfl rfl dX10_init_147 (fun r21 H locs hr21 hP hz1 hS => ?_)
  have hz := hz1.trans hz
  have hZ := hZ.r hr21 (by omega)
  have g := gst g hr21 (by decide) (by decide) (by decide)
  have ge : ∀ a, a ≠ 816 → r21 a = r a := fun a ha => by rw [hr21]; exact (up2_of _ _ _ _ ha).trans (ge a ha)
  refine lv_aload_n hx hb dX10_init_150 rfl (lv_at hl 0 rfl) ?_
  refine lv_bipush (v := 80) hx hb dX10_init_151 (by decide) ?_
  refine w_newa (ty := .int) (n := 836) (q0 := 0) (ki := 11) (N := 80) hx hb rfl (by decide) rfl raI rfl (hts _ ma_int) hK hP hz hS hZ (by decide) (by decide) (by decide) (by decide) (by decide) (by decide) (by decide) dX10_init_153 (fun H hP hz hS hZ => ?_)
  have hP : va_P (dC, dI) vwCl (Wd base cy r21 v6 (837)) H := hP
  have hz : H.size = base + (837) := hz
  have hZ : Zr (837) v6 r21 := hZ
  refine W.widen (k := 20) (n := 468) (by decide) (by decide) ?_
  refine w_pRF (ty := (.array .int)) (C := RX10) (T := TX10) (N := 64) (ci := 10) hx hb hts in10 tyX10 tyX10_ok nmX10 hown hK hP hS 20 (by omega) i10 rfl (by decide) (hts _ mf_X10_68) rfl hin rfl (by decide +kernel) rfl rfl dX10_init_155 (fun r22 H locs hr22 hP hz1 hS => ?_)
  have hz := hz1.trans hz
  have hZ := hZ.r hr22 (by omega)
  have g := gst g hr22 (by decide) (by decide) (by decide)
  have ge : ∀ a, a ≠ 816 → r22 a = r a := fun a ha => by rw [hr22]; exact (up2_of _ _ _ _ ha).trans (ge a ha)
  refine lv_aload_n hx hb dX10_init_158 rfl (lv_at hl 0 rfl) ?_
  refine lv_sipush (v := 640) hx hb dX10_init_159 (by decide) ?_
  refine w_newa (ty := .int) (n := 837) (q0 := 0) (ki := 11) (N := 640) hx hb rfl (by decide) rfl raI rfl (hts _ ma_int) hK hP hz hS hZ (by decide) (by decide) (by decide) (by decide) (by decide) (by decide) (by decide) dX10_init_162 (fun H hP hz hS hZ => ?_)
  have hP : va_P (dC, dI) vwCl (Wd base cy r22 v6 (838)) H := hP
  have hz : H.size = base + (838) := hz
  have hZ : Zr (838) v6 r22 := hZ
  refine W.widen (k := 21) (n := 1108) (by decide) (by decide) ?_
  refine w_pRF (ty := (.array .int)) (C := RX10) (T := TX10) (N := 64) (ci := 10) hx hb hts in10 tyX10 tyX10_ok nmX10 hown hK hP hS 21 (by omega) i10 rfl (by decide) (hts _ mf_X10_71) rfl hin rfl (by decide +kernel) rfl rfl dX10_init_164 (fun r23 H locs hr23 hP hz1 hS => ?_)
  have hz := hz1.trans hz
  have hZ := hZ.r hr23 (by omega)
  have g := gst g hr23 (by decide) (by decide) (by decide)
  have ge : ∀ a, a ≠ 816 → r23 a = r a := fun a ha => by rw [hr23]; exact (up2_of _ _ _ _ ha).trans (ge a ha)
  refine lv_aload_n hx hb dX10_init_167 rfl (lv_at hl 0 rfl) ?_
  refine lv_iconst (v := 2) hx hb dX10_init_168 (by decide) ?_
  refine w_newa (ty := .int) (n := 838) (q0 := 0) (ki := 11) (N := 2) hx hb rfl (by decide) rfl raI rfl (hts _ ma_int) hK hP hz hS hZ (by decide) (by decide) (by decide) (by decide) (by decide) (by decide) (by decide) dX10_init_169 (fun H hP hz hS hZ => ?_)
  have hP : va_P (dC, dI) vwCl (Wd base cy r23 v6 (839)) H := hP
  have hz : H.size = base + (839) := hz
  have hZ : Zr (839) v6 r23 := hZ
  refine W.widen (k := 22) (n := 1110) (by decide) (by decide) ?_
  refine w_pRF (ty := (.array .int)) (C := RX10) (T := TX10) (N := 64) (ci := 10) hx hb hts in10 tyX10 tyX10_ok nmX10 hown hK hP hS 22 (by omega) i10 rfl (by decide) (hts _ mf_X10_74) rfl hin rfl (by decide +kernel) rfl rfl dX10_init_171 (fun r24 H locs hr24 hP hz1 hS => ?_)
  have hz := hz1.trans hz
  have hZ := hZ.r hr24 (by omega)
  have g := gst g hr24 (by decide) (by decide) (by decide)
  have ge : ∀ a, a ≠ 816 → r24 a = r a := fun a ha => by rw [hr24]; exact (up2_of _ _ _ _ ha).trans (ge a ha)
  refine lv_aload_n hx hb dX10_init_174 rfl (lv_at hl 0 rfl) ?_
  refine lv_iconst (v := 2) hx hb dX10_init_175 (by decide) ?_
  refine w_newa (ty := .int) (n := 839) (q0 := 0) (ki := 11) (N := 2) hx hb rfl (by decide) rfl raI rfl (hts _ ma_int) hK hP hz hS hZ (by decide) (by decide) (by decide) (by decide) (by decide) (by decide) (by decide) dX10_init_176 (fun H hP hz hS hZ => ?_)
  have hP : va_P (dC, dI) vwCl (Wd base cy r24 v6 (840)) H := hP
  have hz : H.size = base + (840) := hz
  have hZ : Zr (840) v6 r24 := hZ
  refine W.widen (k := 23) (n := 1112) (by decide) (by decide) ?_
  refine w_pRF (ty := (.array .int)) (C := RX10) (T := TX10) (N := 64) (ci := 10) hx hb hts in10 tyX10 tyX10_ok nmX10 hown hK hP hS 23 (by omega) i10 rfl (by decide) (hts _ mf_X10_77) rfl hin rfl (by decide +kernel) rfl rfl dX10_init_178 (fun r25 H locs hr25 hP hz1 hS => ?_)
  have hz := hz1.trans hz
  have hZ := hZ.r hr25 (by omega)
  have g := gst g hr25 (by decide) (by decide) (by decide)
  have ge : ∀ a, a ≠ 816 → r25 a = r a := fun a ha => by rw [hr25]; exact (up2_of _ _ _ _ ha).trans (ge a ha)
  refine lv_aload_n hx hb dX10_init_181 rfl (lv_at hl 0 rfl) ?_
  refine lv_iconst (v := 2) hx hb dX10_init_182 (by decide) ?_
  refine w_newa (ty := .int) (n := 840) (q0 := 0) (ki := 11) (N := 2) hx hb rfl (by decide) rfl raI rfl (hts _ ma_int) hK hP hz hS hZ (by decide) (by decide) (by decide) (by decide) (by decide) (by decide) (by decide) dX10_init_183 (fun H hP hz hS hZ => ?_)
  have hP : va_P (dC, dI) vwCl (Wd base cy r25 v6 (841)) H := hP
  have hz : H.size = base + (841) := hz
  have hZ : Zr (841) v6 r25 := hZ
  refine W.widen (k := 24) (n := 1114) (by decide) (by decide) ?_
  refine w_pRF (ty := (.array .int)) (C := RX10) (T := TX10) (N := 64) (ci := 10) hx hb hts in10 tyX10 tyX10_ok nmX10 hown hK hP hS 24 (by omega) i10 rfl (by decide) (hts _ mf_X10_80) rfl hin rfl (by decide +kernel) rfl rfl dX10_init_185 (fun r26 H locs hr26 hP hz1 hS => ?_)
  have hz := hz1.trans hz
  have hZ := hZ.r hr26 (by omega)
  have g := gst g hr26 (by decide) (by decide) (by decide)
  have ge : ∀ a, a ≠ 816 → r26 a = r a := fun a ha => by rw [hr26]; exact (up2_of _ _ _ _ ha).trans (ge a ha)
  refine lv_aload_n hx hb dX10_init_188 rfl (lv_at hl 0 rfl) ?_
  refine lv_iconst (v := 2) hx hb dX10_init_189 (by decide) ?_
  refine w_newa (ty := .int) (n := 841) (q0 := 0) (ki := 11) (N := 2) hx hb rfl (by decide) rfl raI rfl (hts _ ma_int) hK hP hz hS hZ (by decide) (by decide) (by decide) (by decide) (by decide) (by decide) (by decide) dX10_init_190 (fun H hP hz hS hZ => ?_)
  have hP : va_P (dC, dI) vwCl (Wd base cy r26 v6 (842)) H := hP
  have hz : H.size = base + (842) := hz
  have hZ : Zr (842) v6 r26 := hZ
  refine W.widen (k := 25) (n := 1116) (by decide) (by decide) ?_
  refine w_pRF (ty := (.array .int)) (C := RX10) (T := TX10) (N := 64) (ci := 10) hx hb hts in10 tyX10 tyX10_ok nmX10 hown hK hP hS 25 (by omega) i10 rfl (by decide) (hts _ mf_X10_83) rfl hin rfl (by decide +kernel) rfl rfl dX10_init_192 (fun r27 H locs hr27 hP hz1 hS => ?_)
  have hz := hz1.trans hz
  have hZ := hZ.r hr27 (by omega)
  have g := gst g hr27 (by decide) (by decide) (by decide)
  have ge : ∀ a, a ≠ 816 → r27 a = r a := fun a ha => by rw [hr27]; exact (up2_of _ _ _ _ ha).trans (ge a ha)
  refine lv_aload_n hx hb dX10_init_195 rfl (lv_at hl 0 rfl) ?_
  refine lv_bipush (v := 16) hx hb dX10_init_196 (by decide) ?_
  refine w_newa (ty := .int) (n := 842) (q0 := 0) (ki := 11) (N := 16) hx hb rfl (by decide) rfl raI rfl (hts _ ma_int) hK hP hz hS hZ (by decide) (by decide) (by decide) (by decide) (by decide) (by decide) (by decide) dX10_init_198 (fun H hP hz hS hZ => ?_)
  have hP : va_P (dC, dI) vwCl (Wd base cy r27 v6 (843)) H := hP
  have hz : H.size = base + (843) := hz
  have hZ : Zr (843) v6 r27 := hZ
  refine W.widen (k := 26) (n := 1132) (by decide) (by decide) ?_
  refine w_pRF (ty := (.array .int)) (C := RX10) (T := TX10) (N := 64) (ci := 10) hx hb hts in10 tyX10 tyX10_ok nmX10 hown hK hP hS 26 (by omega) i10 rfl (by decide) (hts _ mf_X10_86) rfl hin rfl (by decide +kernel) rfl rfl dX10_init_200 (fun r28 H locs hr28 hP hz1 hS => ?_)
  have hz := hz1.trans hz
  have hZ := hZ.r hr28 (by omega)
  have g := gst g hr28 (by decide) (by decide) (by decide)
  have ge : ∀ a, a ≠ 816 → r28 a = r a := fun a ha => by rw [hr28]; exact (up2_of _ _ _ _ ha).trans (ge a ha)
  refine lv_aload_n hx hb dX10_init_203 rfl (lv_at hl 0 rfl) ?_
  refine lv_iconst (v := 2) hx hb dX10_init_204 (by decide) ?_
  refine w_newa (ty := .int) (n := 843) (q0 := 0) (ki := 11) (N := 2) hx hb rfl (by decide) rfl raI rfl (hts _ ma_int) hK hP hz hS hZ (by decide) (by decide) (by decide) (by decide) (by decide) (by decide) (by decide) dX10_init_205 (fun H hP hz hS hZ => ?_)
  have hP : va_P (dC, dI) vwCl (Wd base cy r28 v6 (844)) H := hP
  have hz : H.size = base + (844) := hz
  have hZ : Zr (844) v6 r28 := hZ
  refine W.widen (k := 27) (n := 1134) (by decide) (by decide) ?_
  refine w_pRF (ty := (.array .int)) (C := RX10) (T := TX10) (N := 64) (ci := 10) hx hb hts in10 tyX10 tyX10_ok nmX10 hown hK hP hS 27 (by omega) i10 rfl (by decide) (hts _ mf_X10_89) rfl hin rfl (by decide +kernel) rfl rfl dX10_init_207 (fun r29 H locs hr29 hP hz1 hS => ?_)
  have hz := hz1.trans hz
  have hZ := hZ.r hr29 (by omega)
  have g := gst g hr29 (by decide) (by decide) (by decide)
  have ge : ∀ a, a ≠ 816 → r29 a = r a := fun a ha => by rw [hr29]; exact (up2_of _ _ _ _ ha).trans (ge a ha)
  refine lv_aload_n hx hb dX10_init_210 rfl (lv_at hl 0 rfl) ?_
  refine lv_iconst (v := 2) hx hb dX10_init_211 (by decide) ?_
  refine w_newa (ty := .int) (n := 844) (q0 := 0) (ki := 11) (N := 2) hx hb rfl (by decide) rfl raI rfl (hts _ ma_int) hK hP hz hS hZ (by decide) (by decide) (by decide) (by decide) (by decide) (by decide) (by decide) dX10_init_212 (fun H hP hz hS hZ => ?_)
  have hP : va_P (dC, dI) vwCl (Wd base cy r29 v6 (845)) H := hP
  have hz : H.size = base + (845) := hz
  have hZ : Zr (845) v6 r29 := hZ
  refine W.widen (k := 28) (n := 1136) (by decide) (by decide) ?_
  refine w_pRF (ty := (.array .int)) (C := RX10) (T := TX10) (N := 64) (ci := 10) hx hb hts in10 tyX10 tyX10_ok nmX10 hown hK hP hS 28 (by omega) i10 rfl (by decide) (hts _ mf_X10_92) rfl hin rfl (by decide +kernel) rfl rfl dX10_init_214 (fun r30 H locs hr30 hP hz1 hS => ?_)
  have hz := hz1.trans hz
  have hZ := hZ.r hr30 (by omega)
  have g := gst g hr30 (by decide) (by decide) (by decide)
  have ge : ∀ a, a ≠ 816 → r30 a = r a := fun a ha => by rw [hr30]; exact (up2_of _ _ _ _ ha).trans (ge a ha)
  refine lv_aload_n hx hb dX10_init_217 rfl (lv_at hl 0 rfl) ?_
  refine lv_iconst (v := 2) hx hb dX10_init_218 (by decide) ?_
  refine w_newa (ty := .int) (n := 845) (q0 := 0) (ki := 11) (N := 2) hx hb rfl (by decide) rfl raI rfl (hts _ ma_int) hK hP hz hS hZ (by decide) (by decide) (by decide) (by decide) (by decide) (by decide) (by decide) dX10_init_219 (fun H hP hz hS hZ => ?_)
  have hP : va_P (dC, dI) vwCl (Wd base cy r30 v6 (846)) H := hP
  have hz : H.size = base + (846) := hz
  have hZ : Zr (846) v6 r30 := hZ
  refine W.widen (k := 29) (n := 1138) (by decide) (by decide) ?_
  refine w_pRF (ty := (.array .int)) (C := RX10) (T := TX10) (N := 64) (ci := 10) hx hb hts in10 tyX10 tyX10_ok nmX10 hown hK hP hS 29 (by omega) i10 rfl (by decide) (hts _ mf_X10_95) rfl hin rfl (by decide +kernel) rfl rfl dX10_init_221 (fun r31 H locs hr31 hP hz1 hS => ?_)
  have hz := hz1.trans hz
  have hZ := hZ.r hr31 (by omega)
  have g := gst g hr31 (by decide) (by decide) (by decide)
  have ge : ∀ a, a ≠ 816 → r31 a = r a := fun a ha => by rw [hr31]; exact (up2_of _ _ _ _ ha).trans (ge a ha)
  refine lv_aload_n hx hb dX10_init_224 rfl (lv_at hl 0 rfl) ?_
  refine lv_iconst (v := 2) hx hb dX10_init_225 (by decide) ?_
  refine w_newa (ty := .int) (n := 846) (q0 := 0) (ki := 11) (N := 2) hx hb rfl (by decide) rfl raI rfl (hts _ ma_int) hK hP hz hS hZ (by decide) (by decide) (by decide) (by decide) (by decide) (by decide) (by decide) dX10_init_226 (fun H hP hz hS hZ => ?_)
  have hP : va_P (dC, dI) vwCl (Wd base cy r31 v6 (847)) H := hP
  have hz : H.size = base + (847) := hz
  have hZ : Zr (847) v6 r31 := hZ
  refine W.widen (k := 30) (n := 1140) (by decide) (by decide) ?_
  refine w_pRF (ty := (.array .int)) (C := RX10) (T := TX10) (N := 64) (ci := 10) hx hb hts in10 tyX10 tyX10_ok nmX10 hown hK hP hS 30 (by omega) i10 rfl (by decide) (hts _ mf_X10_98) rfl hin rfl (by decide +kernel) rfl rfl dX10_init_228 (fun r32 H locs hr32 hP hz1 hS => ?_)
  have hz := hz1.trans hz
  have hZ := hZ.r hr32 (by omega)
  have g := gst g hr32 (by decide) (by decide) (by decide)
  have ge : ∀ a, a ≠ 816 → r32 a = r a := fun a ha => by rw [hr32]; exact (up2_of _ _ _ _ ha).trans (ge a ha)
  refine lv_aload_n hx hb dX10_init_231 rfl (lv_at hl 0 rfl) ?_
  refine lv_iconst (v := 2) hx hb dX10_init_232 (by decide) ?_
  refine w_newa (ty := .int) (n := 847) (q0 := 0) (ki := 11) (N := 2) hx hb rfl (by decide) rfl raI rfl (hts _ ma_int) hK hP hz hS hZ (by decide) (by decide) (by decide) (by decide) (by decide) (by decide) (by decide) dX10_init_233 (fun H hP hz hS hZ => ?_)
  have hP : va_P (dC, dI) vwCl (Wd base cy r32 v6 (848)) H := hP
  have hz : H.size = base + (848) := hz
  have hZ : Zr (848) v6 r32 := hZ
  refine W.widen (k := 31) (n := 1142) (by decide) (by decide) ?_
  refine w_pRF (ty := (.array .int)) (C := RX10) (T := TX10) (N := 64) (ci := 10) hx hb hts in10 tyX10 tyX10_ok nmX10 hown hK hP hS 31 (by omega) i10 rfl (by decide) (hts _ mf_X10_101) rfl hin rfl (by decide +kernel) rfl rfl dX10_init_235 (fun r33 H locs hr33 hP hz1 hS => ?_)
  have hz := hz1.trans hz
  have hZ := hZ.r hr33 (by omega)
  have g := gst g hr33 (by decide) (by decide) (by decide)
  have ge : ∀ a, a ≠ 816 → r33 a = r a := fun a ha => by rw [hr33]; exact (up2_of _ _ _ _ ha).trans (ge a ha)
  refine lv_aload_n hx hb dX10_init_238 rfl (lv_at hl 0 rfl) ?_
  refine lv_sipush (v := 256) hx hb dX10_init_239 (by decide) ?_
  refine w_newa (ty := .int) (n := 848) (q0 := 0) (ki := 11) (N := 256) hx hb rfl (by decide) rfl raI rfl (hts _ ma_int) hK hP hz hS hZ (by decide) (by decide) (by decide) (by decide) (by decide) (by decide) (by decide) dX10_init_242 (fun H hP hz hS hZ => ?_)
  have hP : va_P (dC, dI) vwCl (Wd base cy r33 v6 (849)) H := hP
  have hz : H.size = base + (849) := hz
  have hZ : Zr (849) v6 r33 := hZ
  refine W.widen (k := 32) (n := 1398) (by decide) (by decide) ?_
  refine w_pRF (ty := (.array .int)) (C := RX10) (T := TX10) (N := 64) (ci := 10) hx hb hts in10 tyX10 tyX10_ok nmX10 hown hK hP hS 32 (by omega) i10 rfl (by decide) (hts _ mf_X10_104) rfl hin rfl (by decide +kernel) rfl rfl dX10_init_244 (fun r34 H locs hr34 hP hz1 hS => ?_)
  have hz := hz1.trans hz
  have hZ := hZ.r hr34 (by omega)
  have g := gst g hr34 (by decide) (by decide) (by decide)
  have ge : ∀ a, a ≠ 816 → r34 a = r a := fun a ha => by rw [hr34]; exact (up2_of _ _ _ _ ha).trans (ge a ha)
  refine lv_aload_n hx hb dX10_init_247 rfl (lv_at hl 0 rfl) ?_
  refine lv_sipush (v := 256) hx hb dX10_init_248 (by decide) ?_
  refine w_newa (ty := .boolean) (n := 849) (q0 := 1) (ki := 12) (N := 256) hx hb rfl (by decide) rfl raZ rfl (hts _ ma_boolean) hK hP hz hS hZ (by decide) (by decide) (by decide) (by decide) (by decide) (by decide) (by decide) dX10_init_251 (fun H hP hz hS hZ => ?_)
  have hP : va_P (dC, dI) vwCl (Wd base cy r34 v6 (850)) H := hP
  have hz : H.size = base + (850) := hz
  have hZ : Zr (850) v6 r34 := hZ
  refine W.widen (k := 33) (n := 1654) (by decide) (by decide) ?_
  refine w_pRF (ty := (.array .boolean)) (C := RX10) (T := TX10) (N := 64) (ci := 10) hx hb hts in10 tyX10 tyX10_ok nmX10 hown hK hP hS 33 (by omega) i10 rfl (by decide) (hts _ mf_X10_107) rfl hin rfl (by decide +kernel) rfl rfl dX10_init_253 (fun r35 H locs hr35 hP hz1 hS => ?_)
  have hz := hz1.trans hz
  have hZ := hZ.r hr35 (by omega)
  have g := gst g hr35 (by decide) (by decide) (by decide)
  have ge : ∀ a, a ≠ 816 → r35 a = r a := fun a ha => by rw [hr35]; exact (up2_of _ _ _ _ ha).trans (ge a ha)
  refine lv_aload_n hx hb dX10_init_256 rfl (lv_at hl 0 rfl) ?_
  refine lv_sipush (v := 2048) hx hb dX10_init_257 (by decide) ?_
  refine w_newa (ty := .int) (n := 850) (q0 := 0) (ki := 11) (N := 2048) hx hb rfl (by decide) rfl raI rfl (hts _ ma_int) hK hP hz hS hZ (by decide) (by decide) (by decide) (by decide) (by decide) (by decide) (by decide) dX10_init_260 (fun H hP hz hS hZ => ?_)
  have hP : va_P (dC, dI) vwCl (Wd base cy r35 v6 (851)) H := hP
  have hz : H.size = base + (851) := hz
  have hZ : Zr (851) v6 r35 := hZ
  refine W.widen (k := 34) (n := 3702) (by decide) (by decide) ?_
  refine w_pRF (ty := (.array .int)) (C := RX10) (T := TX10) (N := 64) (ci := 10) hx hb hts in10 tyX10 tyX10_ok nmX10 hown hK hP hS 34 (by omega) i10 rfl (by decide) (hts _ mf_X10_110) rfl hin rfl (by decide +kernel) rfl rfl dX10_init_262 (fun r36 H locs hr36 hP hz1 hS => ?_)
  have hz := hz1.trans hz
  have hZ := hZ.r hr36 (by omega)
  have g := gst g hr36 (by decide) (by decide) (by decide)
  have ge : ∀ a, a ≠ 816 → r36 a = r a := fun a ha => by rw [hr36]; exact (up2_of _ _ _ _ ha).trans (ge a ha)
  refine lv_aload_n hx hb dX10_init_265 rfl (lv_at hl 0 rfl) ?_
  refine lv_iconst (v := 2) hx hb dX10_init_266 (by decide) ?_
  refine w_newa (ty := .int) (n := 851) (q0 := 0) (ki := 11) (N := 2) hx hb rfl (by decide) rfl raI rfl (hts _ ma_int) hK hP hz hS hZ (by decide) (by decide) (by decide) (by decide) (by decide) (by decide) (by decide) dX10_init_267 (fun H hP hz hS hZ => ?_)
  have hP : va_P (dC, dI) vwCl (Wd base cy r36 v6 (852)) H := hP
  have hz : H.size = base + (852) := hz
  have hZ : Zr (852) v6 r36 := hZ
  refine W.widen (k := 35) (n := 3704) (by decide) (by decide) ?_
  refine w_pRF (ty := (.array .int)) (C := RX10) (T := TX10) (N := 64) (ci := 10) hx hb hts in10 tyX10 tyX10_ok nmX10 hown hK hP hS 35 (by omega) i10 rfl (by decide) (hts _ mf_X10_113) rfl hin rfl (by decide +kernel) rfl rfl dX10_init_269 (fun r37 H locs hr37 hP hz1 hS => ?_)
  have hz := hz1.trans hz
  have hZ := hZ.r hr37 (by omega)
  have g := gst g hr37 (by decide) (by decide) (by decide)
  have ge : ∀ a, a ≠ 816 → r37 a = r a := fun a ha => by rw [hr37]; exact (up2_of _ _ _ _ ha).trans (ge a ha)
  refine lv_aload_n hx hb dX10_init_272 rfl (lv_at hl 0 rfl) ?_
  refine lv_iconst (v := 2) hx hb dX10_init_273 (by decide) ?_
  refine w_newa (ty := .int) (n := 852) (q0 := 0) (ki := 11) (N := 2) hx hb rfl (by decide) rfl raI rfl (hts _ ma_int) hK hP hz hS hZ (by decide) (by decide) (by decide) (by decide) (by decide) (by decide) (by decide) dX10_init_274 (fun H hP hz hS hZ => ?_)
  have hP : va_P (dC, dI) vwCl (Wd base cy r37 v6 (853)) H := hP
  have hz : H.size = base + (853) := hz
  have hZ : Zr (853) v6 r37 := hZ
  refine W.widen (k := 36) (n := 3706) (by decide) (by decide) ?_
  refine w_pRF (ty := (.array .int)) (C := RX10) (T := TX10) (N := 64) (ci := 10) hx hb hts in10 tyX10 tyX10_ok nmX10 hown hK hP hS 36 (by omega) i10 rfl (by decide) (hts _ mf_X10_116) rfl hin rfl (by decide +kernel) rfl rfl dX10_init_276 (fun r38 H locs hr38 hP hz1 hS => ?_)
  have hz := hz1.trans hz
  have hZ := hZ.r hr38 (by omega)
  have g := gst g hr38 (by decide) (by decide) (by decide)
  have ge : ∀ a, a ≠ 816 → r38 a = r a := fun a ha => by rw [hr38]; exact (up2_of _ _ _ _ ha).trans (ge a ha)
  refine lv_aload_n hx hb dX10_init_279 rfl (lv_at hl 0 rfl) ?_
  refine lv_sipush (v := 8192) hx hb dX10_init_280 (by decide) ?_
  refine w_newa (ty := .int) (n := 853) (q0 := 0) (ki := 11) (N := 8192) hx hb rfl (by decide) rfl raI rfl (hts _ ma_int) hK hP hz hS hZ (by decide) (by decide) (by decide) (by decide) (by decide) (by decide) (by decide) dX10_init_283 (fun H hP hz hS hZ => ?_)
  have hP : va_P (dC, dI) vwCl (Wd base cy r38 v6 (854)) H := hP
  have hz : H.size = base + (854) := hz
  have hZ : Zr (854) v6 r38 := hZ
  refine W.widen (k := 37) (n := 11898) (by decide) (by decide) ?_
  refine w_pRF (ty := (.array .int)) (C := RX10) (T := TX10) (N := 64) (ci := 10) hx hb hts in10 tyX10 tyX10_ok nmX10 hown hK hP hS 37 (by omega) i10 rfl (by decide) (hts _ mf_X10_119) rfl hin rfl (by decide +kernel) rfl rfl dX10_init_285 (fun r39 H locs hr39 hP hz1 hS => ?_)
  have hz := hz1.trans hz
  have hZ := hZ.r hr39 (by omega)
  have g := gst g hr39 (by decide) (by decide) (by decide)
  have ge : ∀ a, a ≠ 816 → r39 a = r a := fun a ha => by rw [hr39]; exact (up2_of _ _ _ _ ha).trans (ge a ha)
  refine lv_aload_n hx hb dX10_init_288 rfl (lv_at hl 0 rfl) ?_
  refine lv_iconst (v := 2) hx hb dX10_init_289 (by decide) ?_
  refine w_newa (ty := .int) (n := 854) (q0 := 0) (ki := 11) (N := 2) hx hb rfl (by decide) rfl raI rfl (hts _ ma_int) hK hP hz hS hZ (by decide) (by decide) (by decide) (by decide) (by decide) (by decide) (by decide) dX10_init_290 (fun H hP hz hS hZ => ?_)
  have hP : va_P (dC, dI) vwCl (Wd base cy r39 v6 (855)) H := hP
  have hz : H.size = base + (855) := hz
  have hZ : Zr (855) v6 r39 := hZ
  refine W.widen (k := 38) (n := 11900) (by decide) (by decide) ?_
  refine w_pRF (ty := (.array .int)) (C := RX10) (T := TX10) (N := 64) (ci := 10) hx hb hts in10 tyX10 tyX10_ok nmX10 hown hK hP hS 38 (by omega) i10 rfl (by decide) (hts _ mf_X10_122) rfl hin rfl (by decide +kernel) rfl rfl dX10_init_292 (fun r40 H locs hr40 hP hz1 hS => ?_)
  have hz := hz1.trans hz
  have hZ := hZ.r hr40 (by omega)
  have g := gst g hr40 (by decide) (by decide) (by decide)
  have ge : ∀ a, a ≠ 816 → r40 a = r a := fun a ha => by rw [hr40]; exact (up2_of _ _ _ _ ha).trans (ge a ha)
  refine lv_aload_n hx hb dX10_init_295 rfl (lv_at hl 0 rfl) ?_
  refine lv_sipush (v := 128) hx hb dX10_init_296 (by decide) ?_
  refine w_newa (ty := .int) (n := 855) (q0 := 0) (ki := 11) (N := 128) hx hb rfl (by decide) rfl raI rfl (hts _ ma_int) hK hP hz hS hZ (by decide) (by decide) (by decide) (by decide) (by decide) (by decide) (by decide) dX10_init_299 (fun H hP hz hS hZ => ?_)
  have hP : va_P (dC, dI) vwCl (Wd base cy r40 v6 (856)) H := hP
  have hz : H.size = base + (856) := hz
  have hZ : Zr (856) v6 r40 := hZ
  refine W.widen (k := 39) (n := 12028) (by decide) (by decide) ?_
  refine w_pRF (ty := (.array .int)) (C := RX10) (T := TX10) (N := 64) (ci := 10) hx hb hts in10 tyX10 tyX10_ok nmX10 hown hK hP hS 39 (by omega) i10 rfl (by decide) (hts _ mf_X10_125) rfl hin rfl (by decide +kernel) rfl rfl dX10_init_301 (fun r41 H locs hr41 hP hz1 hS => ?_)
  have hz := hz1.trans hz
  have hZ := hZ.r hr41 (by omega)
  have g := gst g hr41 (by decide) (by decide) (by decide)
  have ge : ∀ a, a ≠ 816 → r41 a = r a := fun a ha => by rw [hr41]; exact (up2_of _ _ _ _ ha).trans (ge a ha)
  refine lv_aload_n hx hb dX10_init_304 rfl (lv_at hl 0 rfl) ?_
  refine lv_sipush (v := 128) hx hb dX10_init_305 (by decide) ?_
  refine w_newa (ty := .int) (n := 856) (q0 := 0) (ki := 11) (N := 128) hx hb rfl (by decide) rfl raI rfl (hts _ ma_int) hK hP hz hS hZ (by decide) (by decide) (by decide) (by decide) (by decide) (by decide) (by decide) dX10_init_308 (fun H hP hz hS hZ => ?_)
  have hP : va_P (dC, dI) vwCl (Wd base cy r41 v6 (857)) H := hP
  have hz : H.size = base + (857) := hz
  have hZ : Zr (857) v6 r41 := hZ
  refine W.widen (k := 40) (n := 12156) (by decide) (by decide) ?_
  refine w_pRF (ty := (.array .int)) (C := RX10) (T := TX10) (N := 64) (ci := 10) hx hb hts in10 tyX10 tyX10_ok nmX10 hown hK hP hS 40 (by omega) i10 rfl (by decide) (hts _ mf_X10_128) rfl hin rfl (by decide +kernel) rfl rfl dX10_init_310 (fun r42 H locs hr42 hP hz1 hS => ?_)
  have hz := hz1.trans hz
  have hZ := hZ.r hr42 (by omega)
  have g := gst g hr42 (by decide) (by decide) (by decide)
  have ge : ∀ a, a ≠ 816 → r42 a = r a := fun a ha => by rw [hr42]; exact (up2_of _ _ _ _ ha).trans (ge a ha)
  refine lv_aload_n hx hb dX10_init_313 rfl (lv_at hl 0 rfl) ?_
  refine lv_sipush (v := 16384) hx hb dX10_init_314 (by decide) ?_
  refine w_newa (ty := .int) (n := 857) (q0 := 0) (ki := 11) (N := 16384) hx hb rfl (by decide) rfl raI rfl (hts _ ma_int) hK hP hz hS hZ (by decide) (by decide) (by decide) (by decide) (by decide) (by decide) (by decide) dX10_init_317 (fun H hP hz hS hZ => ?_)
  have hP : va_P (dC, dI) vwCl (Wd base cy r42 v6 (858)) H := hP
  have hz : H.size = base + (858) := hz
  have hZ : Zr (858) v6 r42 := hZ
  refine W.widen (k := 41) (n := 28540) (by decide) (by decide) ?_
  refine w_pRF (ty := (.array .int)) (C := RX10) (T := TX10) (N := 64) (ci := 10) hx hb hts in10 tyX10 tyX10_ok nmX10 hown hK hP hS 41 (by omega) i10 rfl (by decide) (hts _ mf_X10_131) rfl hin rfl (by decide +kernel) rfl rfl dX10_init_319 (fun r43 H locs hr43 hP hz1 hS => ?_)
  have hz := hz1.trans hz
  have hZ := hZ.r hr43 (by omega)
  have g := gst g hr43 (by decide) (by decide) (by decide)
  have ge : ∀ a, a ≠ 816 → r43 a = r a := fun a ha => by rw [hr43]; exact (up2_of _ _ _ _ ha).trans (ge a ha)
  refine lv_aload_n hx hb dX10_init_322 rfl (lv_at hl 0 rfl) ?_
  refine lv_iconst (v := 2) hx hb dX10_init_323 (by decide) ?_
  refine w_newa (ty := .int) (n := 858) (q0 := 0) (ki := 11) (N := 2) hx hb rfl (by decide) rfl raI rfl (hts _ ma_int) hK hP hz hS hZ (by decide) (by decide) (by decide) (by decide) (by decide) (by decide) (by decide) dX10_init_324 (fun H hP hz hS hZ => ?_)
  have hP : va_P (dC, dI) vwCl (Wd base cy r43 v6 (859)) H := hP
  have hz : H.size = base + (859) := hz
  have hZ : Zr (859) v6 r43 := hZ
  refine W.widen (k := 42) (n := 28542) (by decide) (by decide) ?_
  refine w_pRF (ty := (.array .int)) (C := RX10) (T := TX10) (N := 64) (ci := 10) hx hb hts in10 tyX10 tyX10_ok nmX10 hown hK hP hS 42 (by omega) i10 rfl (by decide) (hts _ mf_X10_134) rfl hin rfl (by decide +kernel) rfl rfl dX10_init_326 (fun r44 H locs hr44 hP hz1 hS => ?_)
  have hz := hz1.trans hz
  have hZ := hZ.r hr44 (by omega)
  have g := gst g hr44 (by decide) (by decide) (by decide)
  have ge : ∀ a, a ≠ 816 → r44 a = r a := fun a ha => by rw [hr44]; exact (up2_of _ _ _ _ ha).trans (ge a ha)
  refine lv_aload_n hx hb dX10_init_329 rfl (lv_at hl 0 rfl) ?_
  refine lv_iconst (v := 2) hx hb dX10_init_330 (by decide) ?_
  refine w_newa (ty := .int) (n := 859) (q0 := 0) (ki := 11) (N := 2) hx hb rfl (by decide) rfl raI rfl (hts _ ma_int) hK hP hz hS hZ (by decide) (by decide) (by decide) (by decide) (by decide) (by decide) (by decide) dX10_init_331 (fun H hP hz hS hZ => ?_)
  have hP : va_P (dC, dI) vwCl (Wd base cy r44 v6 (860)) H := hP
  have hz : H.size = base + (860) := hz
  have hZ : Zr (860) v6 r44 := hZ
  refine W.widen (k := 43) (n := 28544) (by decide) (by decide) ?_
  refine lv_dup hx hb dX10_init_333 rfl ?_
  refine lv_iconst (v := 0) hx hb dX10_init_334 (by decide) ?_
  refine lv_iconst (v := -1) hx hb dX10_init_335 (by decide) ?_
  refine w_is (N := 2) hx hb hK hP hS (by omega) (by decide) (by decide) (vp_in_nI (n := 0) (by decide) (by decide)) dX10_init_336 (fun v45 H locs hv45 hP hz1 hS => ?_)
  have hz := hz1.trans hz
  have hZ := hZ.v hv45 (by omega)
  have gv : ∀ a, a ≠ 821 → a ≠ 859 → v45 a = v a := fun a h1 h2 => by rw [hv45]; exact (up2_of _ _ _ _ (by omega)).trans (gv a h1 h2)
  refine lv_dup hx hb dX10_init_337 rfl ?_
  refine lv_iconst (v := 1) hx hb dX10_init_338 (by decide) ?_
  refine lv_iconst (v := -1) hx hb dX10_init_339 (by decide) ?_
  refine w_is (N := 2) hx hb hK hP hS (by omega) (by decide) (by decide) (vp_in_nI (n := 1) (by decide) (by decide)) dX10_init_340 (fun v46 H locs hv46 hP hz1 hS => ?_)
  have hz := hz1.trans hz
  have hZ := hZ.v hv46 (by omega)
  have gv : ∀ a, a ≠ 821 → a ≠ 859 → v46 a = v a := fun a h1 h2 => by rw [hv46]; exact (up2_of _ _ _ _ (by omega)).trans (gv a h1 h2)
  have G859 : ∀ k, v46 859 k = if k < 2 then -1 else 0 := two1 (f := z0) (v := v6) (by rw [hv6, up2_of _ _ _ _ (by decide), hv5, up2_of _ _ _ _ (by decide)]; exact (hZ0 859 (by omega)).1) hv45 hv46
  refine w_pRF (ty := (.array .int)) (C := RX10) (T := TX10) (N := 64) (ci := 10) hx hb hts in10 tyX10 tyX10_ok nmX10 hown hK hP hS 43 (by omega) i10 rfl (by decide) (hts _ mf_X10_137) rfl hin rfl (by decide +kernel) rfl rfl dX10_init_341 (fun r47 H locs hr47 hP hz1 hS => ?_)
  have hz := hz1.trans hz
  have hZ := hZ.r hr47 (by omega)
  have g := gst g hr47 (by decide) (by decide) (by decide)
  have ge : ∀ a, a ≠ 816 → r47 a = r a := fun a ha => by rw [hr47]; exact (up2_of _ _ _ _ ha).trans (ge a ha)
  refine lv_aload_n hx hb dX10_init_344 rfl (lv_at hl 0 rfl) ?_
  refine lv_sipush (v := 8192) hx hb dX10_init_345 (by decide) ?_
  refine w_newa (ty := .int) (n := 860) (q0 := 0) (ki := 11) (N := 8192) hx hb rfl (by decide) rfl raI rfl (hts _ ma_int) hK hP hz hS hZ (by decide) (by decide) (by decide) (by decide) (by decide) (by decide) (by decide) dX10_init_348 (fun H hP hz hS hZ => ?_)
  have hP : va_P (dC, dI) vwCl (Wd base cy r47 v46 (861)) H := hP
  have hz : H.size = base + (861) := hz
  have hZ : Zr (861) v46 r47 := hZ
  refine W.widen (k := 44) (n := 36736) (by decide) (by decide) ?_
  refine w_pRF (ty := (.array .int)) (C := RX10) (T := TX10) (N := 64) (ci := 10) hx hb hts in10 tyX10 tyX10_ok nmX10 hown hK hP hS 44 (by omega) i10 rfl (by decide) (hts _ mf_X10_140) rfl hin rfl (by decide +kernel) rfl rfl dX10_init_350 (fun r48 H locs hr48 hP hz1 hS => ?_)
  have hz := hz1.trans hz
  have hZ := hZ.r hr48 (by omega)
  have g := gst g hr48 (by decide) (by decide) (by decide)
  have ge : ∀ a, a ≠ 816 → r48 a = r a := fun a ha => by rw [hr48]; exact (up2_of _ _ _ _ ha).trans (ge a ha)
  refine lv_aload_n hx hb dX10_init_353 rfl (lv_at hl 0 rfl) ?_
  refine lv_iconst (v := 2) hx hb dX10_init_354 (by decide) ?_
  refine w_newa (ty := .int) (n := 861) (q0 := 0) (ki := 11) (N := 2) hx hb rfl (by decide) rfl raI rfl (hts _ ma_int) hK hP hz hS hZ (by decide) (by decide) (by decide) (by decide) (by decide) (by decide) (by decide) dX10_init_355 (fun H hP hz hS hZ => ?_)
  have hP : va_P (dC, dI) vwCl (Wd base cy r48 v46 (862)) H := hP
  have hz : H.size = base + (862) := hz
  have hZ : Zr (862) v46 r48 := hZ
  refine W.widen (k := 45) (n := 36738) (by decide) (by decide) ?_
  refine w_pRF (ty := (.array .int)) (C := RX10) (T := TX10) (N := 64) (ci := 10) hx hb hts in10 tyX10 tyX10_ok nmX10 hown hK hP hS 45 (by omega) i10 rfl (by decide) (hts _ mf_X10_143) rfl hin rfl (by decide +kernel) rfl rfl dX10_init_357 (fun r49 H locs hr49 hP hz1 hS => ?_)
  have hz := hz1.trans hz
  have hZ := hZ.r hr49 (by omega)
  have g := gst g hr49 (by decide) (by decide) (by decide)
  have ge : ∀ a, a ≠ 816 → r49 a = r a := fun a ha => by rw [hr49]; exact (up2_of _ _ _ _ ha).trans (ge a ha)
  refine lv_aload_n hx hb dX10_init_360 rfl (lv_at hl 0 rfl) ?_
  refine lv_sipush (v := 2048) hx hb dX10_init_361 (by decide) ?_
  refine w_newa (ty := .int) (n := 862) (q0 := 0) (ki := 11) (N := 2048) hx hb rfl (by decide) rfl raI rfl (hts _ ma_int) hK hP hz hS hZ (by decide) (by decide) (by decide) (by decide) (by decide) (by decide) (by decide) dX10_init_364 (fun H hP hz hS hZ => ?_)
  have hP : va_P (dC, dI) vwCl (Wd base cy r49 v46 (863)) H := hP
  have hz : H.size = base + (863) := hz
  have hZ : Zr (863) v46 r49 := hZ
  refine W.widen (k := 46) (n := 38786) (by decide) (by decide) ?_
  refine w_pRF (ty := (.array .int)) (C := RX10) (T := TX10) (N := 64) (ci := 10) hx hb hts in10 tyX10 tyX10_ok nmX10 hown hK hP hS 46 (by omega) i10 rfl (by decide) (hts _ mf_X10_146) rfl hin rfl (by decide +kernel) rfl rfl dX10_init_366 (fun r50 H locs hr50 hP hz1 hS => ?_)
  have hz := hz1.trans hz
  have hZ := hZ.r hr50 (by omega)
  have g := gst g hr50 (by decide) (by decide) (by decide)
  have ge : ∀ a, a ≠ 816 → r50 a = r a := fun a ha => by rw [hr50]; exact (up2_of _ _ _ _ ha).trans (ge a ha)
  refine lv_aload_n hx hb dX10_init_369 rfl (lv_at hl 0 rfl) ?_
  refine lv_bipush (v := 64) hx hb dX10_init_370 (by decide) ?_
  refine w_newa (ty := .int) (n := 863) (q0 := 0) (ki := 11) (N := 64) hx hb rfl (by decide) rfl raI rfl (hts _ ma_int) hK hP hz hS hZ (by decide) (by decide) (by decide) (by decide) (by decide) (by decide) (by decide) dX10_init_372 (fun H hP hz hS hZ => ?_)
  have hP : va_P (dC, dI) vwCl (Wd base cy r50 v46 (864)) H := hP
  have hz : H.size = base + (864) := hz
  have hZ : Zr (864) v46 r50 := hZ
  refine W.widen (k := 47) (n := 38850) (by decide) (by decide) ?_
  refine w_pRF (ty := (.array .int)) (C := RX10) (T := TX10) (N := 64) (ci := 10) hx hb hts in10 tyX10 tyX10_ok nmX10 hown hK hP hS 47 (by omega) i10 rfl (by decide) (hts _ mf_X10_149) rfl hin rfl (by decide +kernel) rfl rfl dX10_init_374 (fun r51 H locs hr51 hP hz1 hS => ?_)
  have hz := hz1.trans hz
  have hZ := hZ.r hr51 (by omega)
  have g := gst g hr51 (by decide) (by decide) (by decide)
  have ge : ∀ a, a ≠ 816 → r51 a = r a := fun a ha => by rw [hr51]; exact (up2_of _ _ _ _ ha).trans (ge a ha)
  refine lv_aload_n hx hb dX10_init_377 rfl (lv_at hl 0 rfl) ?_
  refine lv_bipush (v := 60) hx hb dX10_init_378 (by decide) ?_
  refine w_newa (ty := .int) (n := 864) (q0 := 0) (ki := 11) (N := 60) hx hb rfl (by decide) rfl raI rfl (hts _ ma_int) hK hP hz hS hZ (by decide) (by decide) (by decide) (by decide) (by decide) (by decide) (by decide) dX10_init_380 (fun H hP hz hS hZ => ?_)
  have hP : va_P (dC, dI) vwCl (Wd base cy r51 v46 (865)) H := hP
  have hz : H.size = base + (865) := hz
  have hZ : Zr (865) v46 r51 := hZ
  refine W.widen (k := 48) (n := 38910) (by decide) (by decide) ?_
  refine w_pRF (ty := (.array .int)) (C := RX10) (T := TX10) (N := 64) (ci := 10) hx hb hts in10 tyX10 tyX10_ok nmX10 hown hK hP hS 50 (by omega) i10 rfl (by decide) (hts _ mf_X10_152) rfl hin rfl (by decide +kernel) rfl rfl dX10_init_382 (fun r52 H locs hr52 hP hz1 hS => ?_)
  have hz := hz1.trans hz
  have hZ := hZ.r hr52 (by omega)
  have g := gst g hr52 (by decide) (by decide) (by decide)
  have ge : ∀ a, a ≠ 816 → r52 a = r a := fun a ha => by rw [hr52]; exact (up2_of _ _ _ _ ha).trans (ge a ha)
  refine lv_aload_n hx hb dX10_init_385 rfl (lv_at hl 0 rfl) ?_
  refine lv_bipush (v := 60) hx hb dX10_init_386 (by decide) ?_
  refine w_newa (ty := .int) (n := 865) (q0 := 0) (ki := 11) (N := 60) hx hb rfl (by decide) rfl raI rfl (hts _ ma_int) hK hP hz hS hZ (by decide) (by decide) (by decide) (by decide) (by decide) (by decide) (by decide) dX10_init_388 (fun H hP hz hS hZ => ?_)
  have hP : va_P (dC, dI) vwCl (Wd base cy r52 v46 (866)) H := hP
  have hz : H.size = base + (866) := hz
  have hZ : Zr (866) v46 r52 := hZ
  refine W.widen (k := 49) (n := 38970) (by decide) (by decide) ?_
  refine w_pRF (ty := (.array .int)) (C := RX10) (T := TX10) (N := 64) (ci := 10) hx hb hts in10 tyX10 tyX10_ok nmX10 hown hK hP hS 51 (by omega) i10 rfl (by decide) (hts _ mf_X10_155) rfl hin rfl (by decide +kernel) rfl rfl dX10_init_390 (fun r53 H locs hr53 hP hz1 hS => ?_)
  have hz := hz1.trans hz
  have hZ := hZ.r hr53 (by omega)
  have g := gst g hr53 (by decide) (by decide) (by decide)
  have ge : ∀ a, a ≠ 816 → r53 a = r a := fun a ha => by rw [hr53]; exact (up2_of _ _ _ _ ha).trans (ge a ha)
  refine lv_aload_n hx hb dX10_init_393 rfl (lv_at hl 0 rfl) ?_
  refine lv_bipush (v := 60) hx hb dX10_init_394 (by decide) ?_
  refine w_newa (ty := .int) (n := 866) (q0 := 0) (ki := 11) (N := 60) hx hb rfl (by decide) rfl raI rfl (hts _ ma_int) hK hP hz hS hZ (by decide) (by decide) (by decide) (by decide) (by decide) (by decide) (by decide) dX10_init_396 (fun H hP hz hS hZ => ?_)
  have hP : va_P (dC, dI) vwCl (Wd base cy r53 v46 (867)) H := hP
  have hz : H.size = base + (867) := hz
  have hZ : Zr (867) v46 r53 := hZ
  refine W.widen (k := 50) (n := 39030) (by decide) (by decide) ?_
  refine w_pRF (ty := (.array .int)) (C := RX10) (T := TX10) (N := 64) (ci := 10) hx hb hts in10 tyX10 tyX10_ok nmX10 hown hK hP hS 52 (by omega) i10 rfl (by decide) (hts _ mf_X10_158) rfl hin rfl (by decide +kernel) rfl rfl dX10_init_398 (fun r54 H locs hr54 hP hz1 hS => ?_)
  have hz := hz1.trans hz
  have hZ := hZ.r hr54 (by omega)
  have g := gst g hr54 (by decide) (by decide) (by decide)
  have ge : ∀ a, a ≠ 816 → r54 a = r a := fun a ha => by rw [hr54]; exact (up2_of _ _ _ _ ha).trans (ge a ha)
  refine lv_aload_n hx hb dX10_init_401 rfl (lv_at hl 0 rfl) ?_
  refine lv_bipush (v := 60) hx hb dX10_init_402 (by decide) ?_
  refine w_newa (ty := .int) (n := 867) (q0 := 0) (ki := 11) (N := 60) hx hb rfl (by decide) rfl raI rfl (hts _ ma_int) hK hP hz hS hZ (by decide) (by decide) (by decide) (by decide) (by decide) (by decide) (by decide) dX10_init_404 (fun H hP hz hS hZ => ?_)
  have hP : va_P (dC, dI) vwCl (Wd base cy r54 v46 (868)) H := hP
  have hz : H.size = base + (868) := hz
  have hZ : Zr (868) v46 r54 := hZ
  refine W.widen (k := 51) (n := 39090) (by decide) (by decide) ?_
  refine w_pRF (ty := (.array .int)) (C := RX10) (T := TX10) (N := 64) (ci := 10) hx hb hts in10 tyX10 tyX10_ok nmX10 hown hK hP hS 53 (by omega) i10 rfl (by decide) (hts _ mf_X10_161) rfl hin rfl (by decide +kernel) rfl rfl dX10_init_406 (fun r55 H locs hr55 hP hz1 hS => ?_)
  have hz := hz1.trans hz
  have hZ := hZ.r hr55 (by omega)
  have g := gst g hr55 (by decide) (by decide) (by decide)
  have ge : ∀ a, a ≠ 816 → r55 a = r a := fun a ha => by rw [hr55]; exact (up2_of _ _ _ _ ha).trans (ge a ha)
  refine lv_aload_n hx hb dX10_init_409 rfl (lv_at hl 0 rfl) ?_
  refine lv_ldc (v := 81920) hx hb hown (hts _ mk_X10_164) dX10_init_410 ?_
  refine w_newa (ty := .int) (n := 868) (q0 := 0) (ki := 11) (N := 81920) hx hb rfl (by decide) rfl raI rfl (hts _ ma_int) hK hP hz hS hZ (by decide) (by decide) (by decide) (by decide) (by decide) (by decide) (by decide) dX10_init_412 (fun H hP hz hS hZ => ?_)
  have hP : va_P (dC, dI) vwCl (Wd base cy r55 v46 (869)) H := hP
  have hz : H.size = base + (869) := hz
  have hZ : Zr (869) v46 r55 := hZ
  refine W.widen (k := 52) (n := 121010) (by decide) (by decide) ?_
  refine w_pRF (ty := (.array .int)) (C := RX10) (T := TX10) (N := 64) (ci := 10) hx hb hts in10 tyX10 tyX10_ok nmX10 hown hK hP hS 56 (by omega) i10 rfl (by decide) (hts _ mf_X10_165) rfl hin rfl (by decide +kernel) rfl rfl dX10_init_414 (fun r56 H locs hr56 hP hz1 hS => ?_)
  have hz := hz1.trans hz
  have hZ := hZ.r hr56 (by omega)
  have g := gst g hr56 (by decide) (by decide) (by decide)
  have ge : ∀ a, a ≠ 816 → r56 a = r a := fun a ha => by rw [hr56]; exact (up2_of _ _ _ _ ha).trans (ge a ha)
  refine lv_aload_n hx hb dX10_init_417 rfl (lv_at hl 0 rfl) ?_
  refine lv_sipush (v := 4096) hx hb dX10_init_418 (by decide) ?_
  refine w_newa (ty := .int) (n := 869) (q0 := 0) (ki := 11) (N := 4096) hx hb rfl (by decide) rfl raI rfl (hts _ ma_int) hK hP hz hS hZ (by decide) (by decide) (by decide) (by decide) (by decide) (by decide) (by decide) dX10_init_421 (fun H hP hz hS hZ => ?_)
  have hP : va_P (dC, dI) vwCl (Wd base cy r56 v46 (870)) H := hP
  have hz : H.size = base + (870) := hz
  have hZ : Zr (870) v46 r56 := hZ
  refine W.widen (k := 53) (n := 125106) (by decide) (by decide) ?_
  refine w_pRF (ty := (.array .int)) (C := RX10) (T := TX10) (N := 64) (ci := 10) hx hb hts in10 tyX10 tyX10_ok nmX10 hown hK hP hS 57 (by omega) i10 rfl (by decide) (hts _ mf_X10_168) rfl hin rfl (by decide +kernel) rfl rfl dX10_init_423 (fun r57 H locs hr57 hP hz1 hS => ?_)
  have hz := hz1.trans hz
  have hZ := hZ.r hr57 (by omega)
  have g := gst g hr57 (by decide) (by decide) (by decide)
  have ge : ∀ a, a ≠ 816 → r57 a = r a := fun a ha => by rw [hr57]; exact (up2_of _ _ _ _ ha).trans (ge a ha)
  refine lv_aload_n hx hb dX10_init_426 rfl (lv_at hl 0 rfl) ?_
  refine lv_sipush (v := 4096) hx hb dX10_init_427 (by decide) ?_
  refine w_newa (ty := .int) (n := 870) (q0 := 0) (ki := 11) (N := 4096) hx hb rfl (by decide) rfl raI rfl (hts _ ma_int) hK hP hz hS hZ (by decide) (by decide) (by decide) (by decide) (by decide) (by decide) (by decide) dX10_init_430 (fun H hP hz hS hZ => ?_)
  have hP : va_P (dC, dI) vwCl (Wd base cy r57 v46 (871)) H := hP
  have hz : H.size = base + (871) := hz
  have hZ : Zr (871) v46 r57 := hZ
  refine W.widen (k := 54) (n := 129202) (by decide) (by decide) ?_
  refine w_pRF (ty := (.array .int)) (C := RX10) (T := TX10) (N := 64) (ci := 10) hx hb hts in10 tyX10 tyX10_ok nmX10 hown hK hP hS 58 (by omega) i10 rfl (by decide) (hts _ mf_X10_171) rfl hin rfl (by decide +kernel) rfl rfl dX10_init_432 (fun r58 H locs hr58 hP hz1 hS => ?_)
  have hz := hz1.trans hz
  have hZ := hZ.r hr58 (by omega)
  have g := gst g hr58 (by decide) (by decide) (by decide)
  have ge : ∀ a, a ≠ 816 → r58 a = r a := fun a ha => by rw [hr58]; exact (up2_of _ _ _ _ ha).trans (ge a ha)
  refine lv_aload_n hx hb dX10_init_435 rfl (lv_at hl 0 rfl) ?_
  refine lv_sipush (v := 4096) hx hb dX10_init_436 (by decide) ?_
  refine w_newa (ty := .int) (n := 871) (q0 := 0) (ki := 11) (N := 4096) hx hb rfl (by decide) rfl raI rfl (hts _ ma_int) hK hP hz hS hZ (by decide) (by decide) (by decide) (by decide) (by decide) (by decide) (by decide) dX10_init_439 (fun H hP hz hS hZ => ?_)
  have hP : va_P (dC, dI) vwCl (Wd base cy r58 v46 (872)) H := hP
  have hz : H.size = base + (872) := hz
  have hZ : Zr (872) v46 r58 := hZ
  refine W.widen (k := 55) (n := 133298) (by decide) (by decide) ?_
  refine w_pRF (ty := (.array .int)) (C := RX10) (T := TX10) (N := 64) (ci := 10) hx hb hts in10 tyX10 tyX10_ok nmX10 hown hK hP hS 59 (by omega) i10 rfl (by decide) (hts _ mf_X10_174) rfl hin rfl (by decide +kernel) rfl rfl dX10_init_441 (fun r59 H locs hr59 hP hz1 hS => ?_)
  have hz := hz1.trans hz
  have hZ := hZ.r hr59 (by omega)
  have g := gst g hr59 (by decide) (by decide) (by decide)
  have ge : ∀ a, a ≠ 816 → r59 a = r a := fun a ha => by rw [hr59]; exact (up2_of _ _ _ _ ha).trans (ge a ha)
  refine lv_aload_n hx hb dX10_init_444 rfl (lv_at hl 0 rfl) ?_
  refine lv_bipush (v := 20) hx hb dX10_init_445 (by decide) ?_
  refine w_newa (ty := .int) (n := 872) (q0 := 0) (ki := 11) (N := 20) hx hb rfl (by decide) rfl raI rfl (hts _ ma_int) hK hP hz hS hZ (by decide) (by decide) (by decide) (by decide) (by decide) (by decide) (by decide) dX10_init_447 (fun H hP hz hS hZ => ?_)
  have hP : va_P (dC, dI) vwCl (Wd base cy r59 v46 (873)) H := hP
  have hz : H.size = base + (873) := hz
  have hZ : Zr (873) v46 r59 := hZ
  refine W.widen (k := 56) (n := 133318) (by decide) (by decide) ?_
  refine w_pRF (ty := (.array .int)) (C := RX10) (T := TX10) (N := 64) (ci := 10) hx hb hts in10 tyX10 tyX10_ok nmX10 hown hK hP hS 60 (by omega) i10 rfl (by decide) (hts _ mf_X10_177) rfl hin rfl (by decide +kernel) rfl rfl dX10_init_449 (fun r60 H locs hr60 hP hz1 hS => ?_)
  have hz := hz1.trans hz
  have hZ := hZ.r hr60 (by omega)
  have g := gst g hr60 (by decide) (by decide) (by decide)
  have ge : ∀ a, a ≠ 816 → r60 a = r a := fun a ha => by rw [hr60]; exact (up2_of _ _ _ _ ha).trans (ge a ha)
  refine lv_aload_n hx hb dX10_init_452 rfl (lv_at hl 0 rfl) ?_
  refine lv_bipush (v := 20) hx hb dX10_init_453 (by decide) ?_
  refine w_newa (ty := .int) (n := 873) (q0 := 0) (ki := 11) (N := 20) hx hb rfl (by decide) rfl raI rfl (hts _ ma_int) hK hP hz hS hZ (by decide) (by decide) (by decide) (by decide) (by decide) (by decide) (by decide) dX10_init_455 (fun H hP hz hS hZ => ?_)
  have hP : va_P (dC, dI) vwCl (Wd base cy r60 v46 (874)) H := hP
  have hz : H.size = base + (874) := hz
  have hZ : Zr (874) v46 r60 := hZ
  refine W.widen (k := 57) (n := 133338) (by decide) (by decide) ?_
  refine w_pRF (ty := (.array .int)) (C := RX10) (T := TX10) (N := 64) (ci := 10) hx hb hts in10 tyX10 tyX10_ok nmX10 hown hK hP hS 62 (by omega) i10 rfl (by decide) (hts _ mf_X10_180) rfl hin rfl (by decide +kernel) rfl rfl dX10_init_457 (fun r61 H locs hr61 hP hz1 hS => ?_)
  have hz := hz1.trans hz
  have hZ := hZ.r hr61 (by omega)
  have g := gst g hr61 (by decide) (by decide) (by decide)
  have ge : ∀ a, a ≠ 816 → r61 a = r a := fun a ha => by rw [hr61]; exact (up2_of _ _ _ _ ha).trans (ge a ha)
  refine lv_iconst (v := 0) hx hb dX10_init_460 (by decide) ?_
  refine lv_istore_n (lv' := [(1, .int 0), (0, .ref (base + 816))]) hx hb dX10_init_461 rfl hl (by decide) rfl (fun ls hl => ?_)
  refine lc10 hx hb hml hown hts hK hX (v1 := v46) (r1 := r61) (by rw [g 32]; decide) (fun w r9 H locs ls hI hl hP hz hS => ?_) 257 0 v46 r61 _ _ _ (by omega) (by omega) ⟨fun _ _ => rfl, fun k => ?_, rfl, hZ⟩ (lv_sub hl [0, 1] rfl) hP hz hS
  rotate_left
  · rw [gv 848 (by decide) (by decide), (hZ0 848 (by omega)).1]; rfl
  have hZ := hI.2.2.2
  have hBt : Bt 816 874 v r w r9 := by
      obtain ⟨J1, J2, J3, J4⟩ := hI
      refine ⟨fun a ha => ⟨(J1 a (by omega)).trans (gv a (by omega) (by omega)), by rw [J3]; exact ge a (by omega)⟩, fun a h1 h2 => ⟨?_, ?_⟩, J4⟩
      · by_cases a1 : a = 848
        · rw [a1]
          funext k
          rw [J2 k]
          simp [iv, kdM 848 (by decide) (by decide)]
        · rw [J1 a a1]
          by_cases a2 : a = 821
          · rw [a2]
            funext k
            rw [hv46, up2_o _ _ _ _ _ (by decide), hv45, up2_o _ _ _ _ _ (by decide), G821 k]
            simp [iv, kdM 821 (by decide) (by decide)]
          · by_cases a3 : a = 859
            · rw [a3]
              funext k
              rw [G859 k]
              simp [iv, kdM 859 (by decide) (by decide)]
            · rw [gv a a2 a3]
              by_cases a4 : a = 816
              · rw [a4, hv0]
                exact (iv_m (by decide) (by decide) (by decide) (by decide)).symm
              · rw [(hZ0 a (by omega)).1]
                exact (iv_m ⟨h1, h2⟩ a2 a3 a1).symm
      · rw [J3]
        by_cases a4 : a = 816
        · rw [a4]
          funext k
          rw [g k, rf10]
          by_cases hk : k < 63
          · rw [if_pos hk]
          · rw [if_neg hk]
            rcases Nat.lt_or_ge k 64 with h9 | h9
            · rw [show k = 63 by omega]; rfl
            · rw [List.getD_eq_getElem?_getD, List.getElem?_eq_none (by simpa [rfM] using h9)]; rfl
        · rw [ge a a4, (hZ0 a (by omega)).2]
          exact (rf_n (kM11 a h2 (by omega))).symm
  refine W.widen (k := 57) (n := 133338) (by decide) (by decide) ?_
  exact W.vret hx hb hr (fun t ht hW => ⟨⟨(w, r9), rfl, hBt, by rw [ht]; exact hz, by rw [ht]; exact hP, va_K.moved hW.alike hK, hX.warm hW⟩, hS.F ht⟩) hS.2.2 dX10_init_482
