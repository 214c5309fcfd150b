/-- the twin's part is as it was made -/
def Fm (v : VV) : Prop := ∀ a, 816 ≤ a → a < 874 → v a = iv a
theorem kdM : ∀ a, a < 874 → 816 ≤ a → kd a ≠ 0 := by decide +kernel
theorem Fm.z {v : VV} (h : Fm v) {a : Nat} (h1 : 816 ≤ a ∧ a < 874 ∧ a ≠ 821 ∧ a ≠ 859 ∧ a ≠ 848) (k : Nat) : v a k = 0 := by
  rw [h a h1.1 h1.2.1]
  simp [iv, kdM a h1.2.1 h1.1, h1.2.2.1, h1.2.2.2.1, h1.2.2.2.2]
theorem Fm.r {v : VV} (h : Fm v) {k : Nat} (hk : k < 2) : v 821 k = -1 := by
  rw [h 821 (by decide) (by decide)]
  simp [iv, kdM 821 (by decide) (by decide), hk]
theorem Fm.t {v : VV} (h : Fm v) {k : Nat} (hk : k < 2) : v 859 k = -1 := by
  rw [h 859 (by decide) (by decide)]
  simp [iv, kdM 859 (by decide) (by decide), hk]
/-- made grew to q bytes, all else as before -/
def MP (v v' : VV) (q : Nat) : Prop := Fr (fun a => a = 816 ∨ a = 873) v v' ∧ (∀ k, k ≠ 63 → v' 816 k = v 816 k) ∧ v' 816 63 = nI q
theorem MP.tr {v v' v'' : VV} {q q' : Nat} (h : MP v v' q) (h' : MP v' v'' q') : MP v v'' q' := ⟨h.1.tr h'.1, fun k hk => (h'.2.1 k hk).trans (h.2.1 k hk), h'.2.2⟩
set_option maxHeartbeats 4000000 in
set_option maxRecDepth 100000 in
/-- isEnd(e) -/
theorem k_isEnd (l : Launch) (dC : Nat → ClassId) (dI : Nat → Nat → Nat) (base : Nat) (cy : Nat → ClassId) (v : VV) (p1 : Int32) : CI l yX10_isEnd (.code yX10_isEnd cX10_isEnd 1 (some .boolean) :: TB) { frames := 0, cells := 0, slots := 0, locals := 0 } dC dI base cy [.int p1] v (fun (x : Int32) (v' : VV) => v' = v ∧ x = (if p1 = 0 ∨ p1 = 1 then 1 else 0)) := by
  refine Met.ofW (cc := cX10_isEnd) (maxL := 1) (ret := (some .boolean)) (by decide) rfl ?_
  intro p e s m args below meth c s₁ B hml hv
  obtain ⟨rfl, hP, hK⟩ := hv
  have hx := B.exec
  have hb := B.bytes
  have hr := B.returns
  have hts0 := atoms_spec (ws := (.code yX10_isEnd cX10_isEnd 1 (some .boolean) :: TB)) B.pre
  have hts : ∀ w ∈ TB, w.before ([.int p1]).toArray s = true := fun w h => hts0 w (List.mem_cons_of_mem _ h)
  have hown : s.vm.findClass RX10 = some m.cls := findClass_of_methodNamed B.named
  have hlocks := B.notSynchronized
  have hS : va_S (fun q => base ≤ q) s.heap s.heap [] := va_S.rf
  have hl := lv_entry ([.int p1]) (n := 1) (Nat.le_of_ble_eq_true rfl)
  rw [lg_entry_eq]
  generalize (lg_sl ([.int p1]) ++ List.replicate (1 - (lg_sl ([.int p1])).length) Slot.unset).toArray = ls at hl ⊢
  have hl : lv_has ls 1 [(0, .int p1)] := hl
  refine lv_iload_n hx hb dX10_isEnd_0 rfl (lv_at hl 0 rfl) ?_
  refine lv_if_eq (tgt := 9) hx hb dX10_isEnd_1 (by decide) (fun c1 => ?_) (fun c1 => ?_)
  · refine lv_iconst (v := 1) hx hb dX10_isEnd_9 (by decide) ?_
    refine lv_goto (tgt := 14) hx hb dX10_isEnd_10 (by decide) ?_
    exact W.zret (v := 1) hx hb hr (rfl) (fun t ht hW => ⟨⟨1, v, rfl, ⟨rfl, by simp_all⟩, by rw [ht]; exact hP, va_K.moved hW.alike hK⟩, hS.F ht⟩) hS.2.2 dX10_isEnd_14
  · refine lv_iload_n hx hb dX10_isEnd_4 rfl (lv_at hl 0 rfl) ?_
    refine lv_iconst (v := 1) hx hb dX10_isEnd_5 (by decide) ?_
    refine lv_icmp_ne (tgt := 13) hx hb dX10_isEnd_6 (by decide) (fun c6 => ?_) (fun c6 => ?_)
    · refine lv_iconst (v := 0) hx hb dX10_isEnd_13 (by decide) ?_
      exact W.zret (v := 0) hx hb hr (rfl) (fun t ht hW => ⟨⟨0, v, rfl, ⟨rfl, by simp_all⟩, by rw [ht]; exact hP, va_K.moved hW.alike hK⟩, hS.F ht⟩) hS.2.2 dX10_isEnd_14
    · refine lv_iconst (v := 1) hx hb dX10_isEnd_9 (by decide) ?_
      refine lv_goto (tgt := 14) hx hb dX10_isEnd_10 (by decide) ?_
      exact W.zret (v := 1) hx hb hr (rfl) (fun t ht hW => ⟨⟨1, v, rfl, ⟨rfl, by simp_all⟩, by rw [ht]; exact hP, va_K.moved hW.alike hK⟩, hS.F ht⟩) hS.2.2 dX10_isEnd_14
set_option maxHeartbeats 4000000 in
set_option maxRecDepth 100000 in
/-- mod(v) -/
theorem k_mod (l : Launch) (dC : Nat → ClassId) (dI : Nat → Nat → Nat) (base : Nat) (cy : Nat → ClassId) (v : VV) (p1 : Int32) : CI l yX10_mod (.code yX10_mod cX10_mod 1 (some .int) :: TB) { frames := 0, cells := 0, slots := 0, locals := 0 } dC dI base cy [.int p1] v (fun (x : Int32) (v' : VV) => v' = v ∧ x = p1 &&& 127) := by
  refine Met.ofW (cc := cX10_mod) (maxL := 1) (ret := (some .int)) (by decide) rfl ?_
  intro p e s m args below meth c s₁ B hml hv
  obtain ⟨rfl, hP, hK⟩ := hv
  have hx := B.exec
  have hb := B.bytes
  have hr := B.returns
  have hts0 := atoms_spec (ws := (.code yX10_mod cX10_mod 1 (some .int) :: TB)) B.pre
  have hts : ∀ w ∈ TB, w.before ([.int p1]).toArray s = true := fun w h => hts0 w (List.mem_cons_of_mem _ h)
  have hown : s.vm.findClass RX10 = some m.cls := findClass_of_methodNamed B.named
  have hlocks := B.notSynchronized
  have hS : va_S (fun q => base ≤ q) s.heap s.heap [] := va_S.rf
  have hl := lv_entry ([.int p1]) (n := 1) (Nat.le_of_ble_eq_true rfl)
  rw [lg_entry_eq]
  generalize (lg_sl ([.int p1]) ++ List.replicate (1 - (lg_sl ([.int p1])).length) Slot.unset).toArray = ls at hl ⊢
  have hl : lv_has ls 1 [(0, .int p1)] := hl
  refine lv_iload_n hx hb dX10_mod_0 rfl (lv_at hl 0 rfl) ?_
  refine lv_bipush (v := 127) hx hb dX10_mod_1 (by decide) ?_
  refine lv_iand hx hb dX10_mod_3 ?_
  refine lv_topi (fun x3 ex3 => ?_)
  exact W.iret (v := x3) hx hb hr (fun t ht hW => ⟨⟨x3, v, rfl, ⟨rfl, ex3⟩, by rw [ht]; exact hP, va_K.moved hW.alike hK⟩, hS.F ht⟩) hS.2.2 dX10_mod_4
set_option maxHeartbeats 4000000 in
set_option maxRecDepth 100000 in
/-- mod255(v) -/
theorem k_mod255 (l : Launch) (dC : Nat → ClassId) (dI : Nat → Nat → Nat) (base : Nat) (cy : Nat → ClassId) (v : VV) (p1 : Int32) : CI l yX10_mod255 (.code yX10_mod255 cX10_mod255 2 (some .int) :: TB) { frames := 0, cells := 0, slots := 0, locals := 0 } dC dI base cy [.int p1] v (fun (_ : Int32) (v' : VV) => v' = v) := by
  refine Met.ofW (cc := cX10_mod255) (maxL := 2) (ret := (some .int)) (by decide) rfl ?_
  intro p e s m args below meth c s₁ B hml hv
  obtain ⟨rfl, hP, hK⟩ := hv
  have hx := B.exec
  have hb := B.bytes
  have hr := B.returns
  have hts0 := atoms_spec (ws := (.code yX10_mod255 cX10_mod255 2 (some .int) :: TB)) B.pre
  have hts : ∀ w ∈ TB, w.before ([.int p1]).toArray s = true := fun w h => hts0 w (List.mem_cons_of_mem _ h)
  have hown : s.vm.findClass RX10 = some m.cls := findClass_of_methodNamed B.named
  have hlocks := B.notSynchronized
  have hS : va_S (fun q => base ≤ q) s.heap s.heap [] := va_S.rf
  have hl := lv_entry ([.int p1]) (n := 2) (Nat.le_of_ble_eq_true rfl)
  rw [lg_entry_eq]
  generalize (lg_sl ([.int p1]) ++ List.replicate (2 - (lg_sl ([.int p1])).length) Slot.unset).toArray = ls at hl ⊢
  have hl : lv_has ls 2 [(0, .int p1)] := hl
  refine lv_iload_n hx hb dX10_mod255_0 rfl (lv_at hl 0 rfl) ?_
  refine lv_sipush (v := 255) hx hb dX10_mod255_1 (by decide) ?_
  refine lv_irem hx hb dX10_mod255_4 (by decide) ?_
  refine lv_topi (fun x4 ex4 => ?_)
  refine lv_istore_n (lv' := [(1, .int x4), (0, .int p1)]) hx hb dX10_mod255_5 rfl hl (by decide) rfl (fun ls hl => ?_)
  refine lv_iload_n hx hb dX10_mod255_6 rfl (lv_at hl 0 rfl) ?_
  refine lv_if_ge (tgt := 18) hx hb dX10_mod255_7 (by decide) (fun c7 => ?_) (fun c7 => ?_)
  · refine lv_iload_n hx hb dX10_mod255_18 rfl (lv_at hl 0 rfl) ?_
    exact W.iret (v := x4) hx hb hr (fun t ht hW => ⟨⟨x4, v, rfl, rfl, by rw [ht]; exact hP, va_K.moved hW.alike hK⟩, hS.F ht⟩) hS.2.2 dX10_mod255_19
  · refine lv_iload_n hx hb dX10_mod255_10 rfl (lv_at hl 0 rfl) ?_
    refine lv_sipush (v := 255) hx hb dX10_mod255_11 (by decide) ?_
    refine lv_iadd hx hb dX10_mod255_14 ?_
    refine lv_topi (fun x14 ex14 => ?_)
    refine lv_goto (tgt := 19) hx hb dX10_mod255_15 (by decide) ?_
    exact W.iret (v := x14) hx hb hr (fun t ht hW => ⟨⟨x14, v, rfl, rfl, by rw [ht]; exact hP, va_K.moved hW.alike hK⟩, hS.F ht⟩) hS.2.2 dX10_mod255_19
set_option maxHeartbeats 4000000 in
set_option maxRecDepth 100000 in
/-- push(b) -/
theorem k_push (l : Launch) (dC : Nat → ClassId) (dI : Nat → Nat → Nat) (base : Nat) (cy : Nat → ClassId) (v : VV) (p1 : Int32) (q : Nat) (hq : v 816 63 = nI q) (hq2 : q < 20) : CV l yX10_push (.code yX10_push cX10_push 2 none :: TB) { frames := 0, cells := 0, slots := 0, locals := 0 } dC dI base cy [.ref (base + 816), .int p1] v (fun v' : VV => v' = up2 (up2 v 873 q p1) 816 63 (nI (q + 1))) := by
  refine Met.ofW (cc := cX10_push) (maxL := 2) (ret := none) (by decide) rfl ?_
  intro p e s m args below meth c s₁ B hml hv
  obtain ⟨rfl, hP, hK⟩ := hv
  have hx := B.exec
  have hb := B.bytes
  have hr := B.returns
  have hts0 := atoms_spec (ws := (.code yX10_push cX10_push 2 none :: TB)) B.pre
  have hts : ∀ w ∈ TB, w.before ([.ref (base + 816), .int p1]).toArray s = true := fun w h => hts0 w (List.mem_cons_of_mem _ h)
  have hown : s.vm.findClass RX10 = some m.cls := findClass_of_methodNamed B.named
  have hlocks := B.notSynchronized
  have hS : va_S (fun q => base ≤ q) s.heap s.heap [] := va_S.rf
  have hl := lv_entry ([.ref (base + 816), .int p1]) (n := 2) (Nat.le_of_ble_eq_true rfl)
  rw [lg_entry_eq]
  generalize (lg_sl ([.ref (base + 816), .int p1]) ++ List.replicate (2 - (lg_sl ([.ref (base + 816), .int p1])).length) Slot.unset).toArray = ls at hl ⊢
  have hl : lv_has ls 2 [(0, .ref (base + 816)), (1, .int p1)] := hl
  refine lv_aload_n hx hb dX10_push_0 rfl (lv_at hl 0 rfl) ?_
  have q1 := ch10_62 i10
  refine w_gR (C := RX10) (T := TX10) (N := 64) (ci := 10) hx hb hts in10 hown hK hP 62 i10.1 i10 rfl (by decide) q1.1 (hts _ mf_X10_180) dX10_push_1 ?_
  refine lv_aload_n hx hb dX10_push_4 rfl (lv_at hl 0 rfl) ?_
  refine w_gI (C := RX10) (T := TX10) (N := 64) (ci := 10) hx hb hts in10 hown hK hP 63 i10.1 i10 rfl (by decide) (hts _ mf_X10_183) dX10_push_5 ?_
  refine lv_topi (fun x5 ex5 => ?_)
  refine lv_iload_n hx hb dX10_push_8 rfl (lv_at hl 1 rfl) ?_
  refine w_is (N := 20) hx hb hK hP hS q1.2.1.1 (q1.2.1) (q1.2.2) (by rw [ex5, hq]; exact vp_in_nI hq2 (by decide)) dX10_push_9 (fun v2 H locs hv2 hP hz hS => ?_)
  refine lv_aload_n hx hb dX10_push_10 rfl (lv_at hl 0 rfl) ?_
  refine lv_dup hx hb dX10_push_11 rfl ?_
  refine w_gI (C := RX10) (T := TX10) (N := 64) (ci := 10) hx hb hts in10 hown hK hP 63 i10.1 i10 rfl (by decide) (hts _ mf_X10_183) dX10_push_12 ?_
  refine lv_topi (fun x12 ex12 => ?_)
  refine lv_iconst (v := 1) hx hb dX10_push_15 (by decide) ?_
  refine lv_iadd hx hb dX10_push_16 ?_
  refine lv_topi (fun x16 ex16 => ?_)
  refine w_pI (C := RX10) (T := TX10) (N := 64) (ci := 10) hx hb hts in10 tyX10 tyX10_ok nmX10 hown hK hP hS 63 i10.1 i10 rfl (by decide) (hts _ mf_X10_183) rfl (ty := .int) (by decide +kernel) rfl rfl dX10_push_17 (fun v3 H locs hv3 hP hz hS => ?_)
  exact W.vret hx hb hr (fun t ht hW => ⟨⟨v3, rfl, by
      have e1 : x5.toNatClampNeg = q := by rw [ex5, hq, nI_clamp (by omega)]
      have e2 : x16 = nI (q + 1) := by rw [ex16, ex12, hv2, up2_o _ _ _ _ _ (by decide), hq, nI_1]
      rw [hv3, hv2, e1, e2], by rw [ht]; exact hP, va_K.moved hW.alike hK⟩, hS.F ht⟩) hS.2.2 dX10_push_20
theorem push_MP {v v' : VV} {q : Nat} {x : Int32} (h : v' = up2 (up2 v 873 q x) 816 63 (nI (q + 1))) : MP v v' (q + 1) := by
  rw [h]
  refine ⟨(Fr.rf.up _ _ _ (by decide)).up _ _ _ (by decide), fun k hk => ?_, up2_s _ _ _ _⟩
  rw [up2_k _ _ _ _ hk, up2_o _ _ _ _ _ (by decide)]
theorem push_0 {v v' : VV} {q : Nat} {x : Int32} (h : v' = up2 (up2 v 873 q x) 816 63 (nI (q + 1))) (hq : 0 < q) : v' 873 0 = v 873 0 := by
  rw [h, up2_o _ _ _ _ _ (by decide), up2_k _ _ _ _ (by omega)]
set_option maxHeartbeats 4000000 in
set_option maxRecDepth 100000 in
/-- begin(code, to) -/
theorem k_begin (l : Launch) (dC : Nat → ClassId) (dI : Nat → Nat → Nat) (base : Nat) (cy : Nat → ClassId) (v : VV) (p1 p2 : Int32) : CV l yX10_begin (.code yX10_begin cX10_begin 3 none :: TB) { frames := 1, cells := 0, slots := 0, locals := 21 } dC dI base cy [.ref (base + 816), .int p1, .int p2] v (fun v' : VV => MP v v' 4) := by
  refine Met.ofW (cc := cX10_begin) (maxL := 3) (ret := none) (by decide) rfl ?_
  intro p e s m args below meth c s₁ B hml hv
  obtain ⟨rfl, hP, hK⟩ := hv
  have hx := B.exec
  have hb := B.bytes
  have hr := B.returns
  have hts0 := atoms_spec (ws := (.code yX10_begin cX10_begin 3 none :: TB)) B.pre
  have hts : ∀ w ∈ TB, w.before ([.ref (base + 816), .int p1, .int p2]).toArray s = true := fun w h => hts0 w (List.mem_cons_of_mem _ h)
  have hown : s.vm.findClass RX10 = some m.cls := findClass_of_methodNamed B.named
  have hlocks := B.notSynchronized
  have hS : va_S (fun q => base ≤ q) s.heap s.heap [] := va_S.rf
  have hl := lv_entry ([.ref (base + 816), .int p1, .int p2]) (n := 3) (Nat.le_of_ble_eq_true rfl)
  rw [lg_entry_eq]
  generalize (lg_sl ([.ref (base + 816), .int p1, .int p2]) ++ List.replicate (3 - (lg_sl ([.ref (base + 816), .int p1, .int p2])).length) Slot.unset).toArray = ls at hl ⊢
  have hl : lv_has ls 3 [(0, .ref (base + 816)), (1, .int p1), (2, .int p2)] := hl
  refine lv_aload_n hx hb dX10_begin_0 rfl (lv_at hl 0 rfl) ?_
  refine lv_iconst (v := 1) hx hb dX10_begin_1 (by decide) ?_
  refine w_pI (C := RX10) (T := TX10) (N := 64) (ci := 10) hx hb hts in10 tyX10 tyX10_ok nmX10 hown hK hP hS 63 i10.1 i10 rfl (by decide) (hts _ mf_X10_183) rfl (ty := .int) (by decide +kernel) rfl rfl dX10_begin_2 (fun v1 H locs hv1 hP hz hS => ?_)
  refine lv_aload_n hx hb dX10_begin_5 rfl (lv_at hl 0 rfl) ?_
  refine lv_iload_n hx hb dX10_begin_6 rfl (lv_at hl 1 rfl) ?_
  refine k_V (As := [.int p1]) (rest := []) ⟨hx, hb, hml, hown, hts⟩ (k_push l dC dI base cy v1 p1 1 (by rw [hv1, up2_s]; rfl) (by decide)) (cwV 1 hts (gV ml_X10_187 mi_X10_push mx_X10_push mn_X10 mo_X10_push) rfl rfl rfl (by decide +kernel) ⟨by decide, by decide⟩) hK hP hS i10 (by decide) rfl rfl hl.1 rfl (Nat.le_of_ble_eq_true rfl) dX10_begin_7 ⟨Nat.zero_le _, Nat.zero_le _⟩ (fun v2 H locs hv2 hP hS => ?_)
  have g1 := push_MP hv2
  refine lv_aload_n hx hb dX10_begin_10 rfl (lv_at hl 0 rfl) ?_
  refine lv_iload_n hx hb dX10_begin_11 rfl (lv_at hl 2 rfl) ?_
  refine lv_sipush (v := 256) hx hb dX10_begin_12 (by decide) ?_
  refine lv_idiv hx hb dX10_begin_15 (by decide) ?_
  refine lv_topi (fun x15 ex15 => ?_)
  refine k_V (As := [.int x15]) (rest := []) ⟨hx, hb, hml, hown, hts⟩ (k_push l dC dI base cy v2 x15 2 g1.2.2 (by decide)) (cwV 1 hts (gV ml_X10_187 mi_X10_push mx_X10_push mn_X10 mo_X10_push) rfl rfl rfl (by decide +kernel) ⟨by decide, by decide⟩) hK hP hS i10 (by decide) rfl rfl hl.1 rfl (Nat.le_of_ble_eq_true rfl) dX10_begin_16 ⟨Nat.zero_le _, Nat.zero_le _⟩ (fun v3 H locs hv3 hP hS => ?_)
  have g2 := g1.tr (push_MP hv3)
  refine lv_aload_n hx hb dX10_begin_19 rfl (lv_at hl 0 rfl) ?_
  refine lv_iload_n hx hb dX10_begin_20 rfl (lv_at hl 2 rfl) ?_
  refine lv_sipush (v := 256) hx hb dX10_begin_21 (by decide) ?_
  refine lv_irem hx hb dX10_begin_24 (by decide) ?_
  refine lv_topi (fun x24 ex24 => ?_)
  refine k_V (As := [.int x24]) (rest := []) ⟨hx, hb, hml, hown, hts⟩ (k_push l dC dI base cy v3 x24 3 g2.2.2 (by decide)) (cwV 1 hts (gV ml_X10_187 mi_X10_push mx_X10_push mn_X10 mo_X10_push) rfl rfl rfl (by decide +kernel) ⟨by decide, by decide⟩) hK hP hS i10 (by decide) rfl rfl hl.1 rfl (Nat.le_of_ble_eq_true rfl) dX10_begin_25 ⟨Nat.zero_le _, Nat.zero_le _⟩ (fun v4 H locs hv4 hP hS => ?_)
  have g3 := g2.tr (push_MP hv4)
  exact W.vret hx hb hr (fun t ht hW => ⟨⟨v4, rfl, by
      refine ⟨Fr.tr ?_ g3.1, fun k hk => ?_, g3.2.2⟩
      · rw [hv1]; exact Fr.rf.up _ _ _ (by decide)
      · rw [g3.2.1 k hk, hv1, up2_k _ _ _ _ hk], by rw [ht]; exact hP, va_K.moved hW.alike hK⟩, hS.F ht⟩) hS.2.2 dX10_begin_28
set_option maxHeartbeats 4000000 in
set_option maxRecDepth 100000 in
/-- endHead() -/
theorem k_endHead (l : Launch) (dC : Nat → ClassId) (dI : Nat → Nat → Nat) (base : Nat) (cy : Nat → ClassId) (v : VV) (q : Nat) (hq : v 816 63 = nI q) (hq2 : q + 4 ≤ 20) : CV l yX10_endHead (.code yX10_endHead cX10_endHead 1 none :: TB) { frames := 1, cells := 0, slots := 0, locals := 21 } dC dI base cy [.ref (base + 816)] v (fun v' : VV => MP v v' (q + 4) ∧ v' 873 0 = nI (q + 3)) := by
  refine Met.ofW (cc := cX10_endHead) (maxL := 1) (ret := none) (by decide) rfl ?_
  intro p e s m args below meth c s₁ B hml hv
  obtain ⟨rfl, hP, hK⟩ := hv
  have hx := B.exec
  have hb := B.bytes
  have hr := B.returns
  have hts0 := atoms_spec (ws := (.code yX10_endHead cX10_endHead 1 none :: TB)) B.pre
  have hts : ∀ w ∈ TB, w.before ([.ref (base + 816)]).toArray s = true := fun w h => hts0 w (List.mem_cons_of_mem _ h)
  have hown : s.vm.findClass RX10 = some m.cls := findClass_of_methodNamed B.named
  have hlocks := B.notSynchronized
  have hS : va_S (fun q => base ≤ q) s.heap s.heap [] := va_S.rf
  have hl := lv_entry ([.ref (base + 816)]) (n := 1) (Nat.le_of_ble_eq_true rfl)
  rw [lg_entry_eq]
  generalize (lg_sl ([.ref (base + 816)]) ++ List.replicate (1 - (lg_sl ([.ref (base + 816)])).length) Slot.unset).toArray = ls at hl ⊢
  have hl : lv_has ls 1 [(0, .ref (base + 816))] := hl
  refine lv_aload_n hx hb dX10_endHead_0 rfl (lv_at hl 0 rfl) ?_
  refine lv_sipush (v := 195) hx hb dX10_endHead_1 (by decide) ?_
  refine k_V (As := [.int 195]) (rest := []) ⟨hx, hb, hml, hown, hts⟩ (k_push l dC dI base cy v 195 q hq (by omega)) (cwV 1 hts (gV ml_X10_187 mi_X10_push mx_X10_push mn_X10 mo_X10_push) rfl rfl rfl (by decide +kernel) ⟨by decide, by decide⟩) hK hP hS i10 (by decide) rfl rfl hl.1 rfl (Nat.le_of_ble_eq_true rfl) dX10_endHead_4 ⟨Nat.zero_le _, Nat.zero_le _⟩ (fun v1 H locs hv1 hP hS => ?_)
  have g1 := push_MP hv1
  refine lv_aload_n hx hb dX10_endHead_7 rfl (lv_at hl 0 rfl) ?_
  refine lv_iconst (v := 2) hx hb dX10_endHead_8 (by decide) ?_
  refine k_V (As := [.int 2]) (rest := []) ⟨hx, hb, hml, hown, hts⟩ (k_push l dC dI base cy v1 2 (q + 1) g1.2.2 (by omega)) (cwV 1 hts (gV ml_X10_187 mi_X10_push mx_X10_push mn_X10 mo_X10_push) rfl rfl rfl (by decide +kernel) ⟨by decide, by decide⟩) hK hP hS i10 (by decide) rfl rfl hl.1 rfl (Nat.le_of_ble_eq_true rfl) dX10_endHead_9 ⟨Nat.zero_le _, Nat.zero_le _⟩ (fun v2 H locs hv2 hP hS => ?_)
  have g2 := g1.tr (push_MP hv2)
  refine lv_aload_n hx hb dX10_endHead_12 rfl (lv_at hl 0 rfl) ?_
  refine lv_iconst (v := 0) hx hb dX10_endHead_13 (by decide) ?_
  refine k_V (As := [.int 0]) (rest := []) ⟨hx, hb, hml, hown, hts⟩ (k_push l dC dI base cy v2 0 (q + 2) g2.2.2 (by omega)) (cwV 1 hts (gV ml_X10_187 mi_X10_push mx_X10_push mn_X10 mo_X10_push) rfl rfl rfl (by decide +kernel) ⟨by decide, by decide⟩) hK hP hS i10 (by decide) rfl rfl hl.1 rfl (Nat.le_of_ble_eq_true rfl) dX10_endHead_14 ⟨Nat.zero_le _, Nat.zero_le _⟩ (fun v3 H locs hv3 hP hS => ?_)
  have g3 := g2.tr (push_MP hv3)
  refine lv_aload_n hx hb dX10_endHead_17 rfl (lv_at hl 0 rfl) ?_
  refine lv_iconst (v := 0) hx hb dX10_endHead_18 (by decide) ?_
  refine k_V (As := [.int 0]) (rest := []) ⟨hx, hb, hml, hown, hts⟩ (k_push l dC dI base cy v3 0 (q + 3) g3.2.2 (by omega)) (cwV 1 hts (gV ml_X10_187 mi_X10_push mx_X10_push mn_X10 mo_X10_push) rfl rfl rfl (by decide +kernel) ⟨by decide, by decide⟩) hK hP hS i10 (by decide) rfl rfl hl.1 rfl (Nat.le_of_ble_eq_true rfl) dX10_endHead_19 ⟨Nat.zero_le _, Nat.zero_le _⟩ (fun v4 H locs hv4 hP hS => ?_)
  have g4 := g3.tr (push_MP hv4)
  refine lv_aload_n hx hb dX10_endHead_22 rfl (lv_at hl 0 rfl) ?_
  have q5 := ch10_62 i10
  refine w_gR (C := RX10) (T := TX10) (N := 64) (ci := 10) hx hb hts in10 hown hK hP 62 i10.1 i10 rfl (by decide) q5.1 (hts _ mf_X10_180) dX10_endHead_23 ?_
  refine lv_iconst (v := 0) hx hb dX10_endHead_26 (by decide) ?_
  refine lv_aload_n hx hb dX10_endHead_27 rfl (lv_at hl 0 rfl) ?_
  refine w_gI (C := RX10) (T := TX10) (N := 64) (ci := 10) hx hb hts in10 hown hK hP 63 i10.1 i10 rfl (by decide) (hts _ mf_X10_183) dX10_endHead_28 ?_
  refine lv_topi (fun x28 ex28 => ?_)
  refine lv_iconst (v := 1) hx hb dX10_endHead_31 (by decide) ?_
  refine lv_isub hx hb dX10_endHead_32 ?_
  refine lv_topi (fun x32 ex32 => ?_)
  refine w_is (N := 20) hx hb hK hP hS q5.2.1.1 (q5.2.1) (q5.2.2) (vp_in_nI (n := 0) (by decide) (by decide)) dX10_endHead_33 (fun v6 H locs hv6 hP hz hS => ?_)
  exact W.vret hx hb hr (fun t ht hW => ⟨⟨v6, rfl, by
      rw [hv6]
      refine ⟨⟨g4.1.up _ _ _ (by decide), fun k hk => ?_, ?_⟩, ?_⟩
      · rw [up2_o _ _ _ _ _ (by decide)]; exact g4.2.1 k hk
      · rw [up2_o _ _ _ _ _ (by decide)]; exact g4.2.2
      · show up2 _ 873 0 x32 873 0 = _
        rw [up2_s, ex32, ex28, g4.2.2, nI_pred], by rw [ht]; exact hP, va_K.moved hW.alike hK⟩, hS.F ht⟩) hS.2.2 dX10_endHead_34
set_option maxHeartbeats 4000000 in
set_option maxRecDepth 100000 in
/-- the loop of check -/
theorem lpk_check {p : Program} {l : Launch} {e : Env} {R : Room} {s : State} {m : MethodId} {args : Array Value} {below : List Frame} {meth : Method} {c : Code} {cells slots : Nat} {Q : State → Prop} {dC : Nat → ClassId} {dI : Nat → Nat → Nat} {base : Nat} {cy : Nat → ClassId} {H0 : Heap} (hx : p.tables.exec = Jvm.exec) (hb : c.code = cX10_check) (hml : c.maxLocals = 4) (hown : s.vm.findClass RX10 = some m.cls) (hts : ∀ w ∈ TB, w.before args s = true) (hK : va_K (dC, dI) vwCl (tyL cy) s) (hcs : cells ≤ R.cells ∧ slots ≤ R.slots) {v : VV} {q : Nat} (hq : v 816 63 = nI q) (hq2 : q ≤ 20) (hex : ∀ (x y : Int32) (H : Heap) (locs : List Loc) (ls : Array Slot), lv_has ls 4 [(2, .int y), (1, .int x), (0, .ref (base + 816))] → va_P (dC, dI) vwCl (Wd base cy rf v 874) H → va_S (fun q => base ≤ q) H0 H locs → W p l e R s m args below meth c H locs cells slots Q (F0 m 51 ls [])) : ∀ (k : Nat) (i : Nat) (x y : Int32) (H : Heap) (locs : List Loc) (ls : Array Slot), i ≤ q → q + 1 ≤ i + k → lv_has ls 4 [(3, .int (nI (i + 1))), (2, .int y), (1, .int x), (0, .ref (base + 816))] → va_P (dC, dI) vwCl (Wd base cy rf v 874) H → va_S (fun q => base ≤ q) H0 H locs → W p l e R s m args below meth c H locs cells slots Q (F0 m 6 ls []) := by
  intro k
  induction k with
  | zero =>
    intro i x y H locs ls hi hk hl hP hS
    omega
  | succ k ih =>
    intro i x y H locs ls hi hk hl hP hS
    refine lv_iload_n hx hb dX10_check_6 rfl (lv_at hl 0 rfl) ?_
    refine lv_aload_n hx hb dX10_check_7 rfl (lv_at hl 3 rfl) ?_
    refine w_gI (C := RX10) (T := TX10) (N := 64) (ci := 10) hx hb hts in10 hown hK hP 63 i10.1 i10 rfl (by decide) (hts _ mf_X10_183) dX10_check_8 ?_
    refine lv_topi (fun x8 ex8 => ?_)
    refine lv_icmp_gt (tgt := 51) hx hb dX10_check_11 (by decide) (fun c11 => ?_) (fun c11 => ?_)
    · exact hex _ _ _ _ _ (lv_sub hl [1, 2, 3] rfl) hP hS
    · have hi2 : i < q := Nat.lt_of_not_le (fun w => c11 (by rw [ex8, hq]; exact nI_lt (by omega) (by omega)))
      refine lv_iload_n hx hb dX10_check_14 rfl (lv_at hl 2 rfl) ?_
      refine lv_aload_n hx hb dX10_check_15 rfl (lv_at hl 3 rfl) ?_
      have q1 := ch10_62 i10
      refine w_gR (C := RX10) (T := TX10) (N := 64) (ci := 10) hx hb hts in10 hown hK hP 62 i10.1 i10 rfl (by decide) q1.1 (hts _ mf_X10_180) dX10_check_16 ?_
      refine lv_iload_n hx hb dX10_check_19 rfl (lv_at hl 0 rfl) ?_
      refine lv_iconst (v := 1) hx hb dX10_check_20 (by decide) ?_
      refine lv_isub hx hb dX10_check_21 ?_
      refine lv_topi (fun x21 ex21 => ?_)
      refine w_ia (N := 20) hx hb hK hP q1.2.1.1 (q1.2.1) (q1.2.2) (by rw [ex21, nI_pred]; exact vp_in_nI (by omega) (by decide)) dX10_check_22 ?_
      refine lv_topi (fun x22 ex22 => ?_)
      refine lv_iadd hx hb dX10_check_23 ?_
      refine lv_topi (fun x23 ex23 => ?_)
      refine lv_istore_n (lv' := [(1, .int x23), (3, .int (nI (i + 1))), (2, .int y), (0, .ref (base + 816))]) hx hb dX10_check_24 rfl hl (by decide) rfl (fun ls hl => ?_)
      refine lv_iload_n hx hb dX10_check_25 rfl (lv_at hl 2 rfl) ?_
      refine lv_aload_n hx hb dX10_check_26 rfl (lv_at hl 3 rfl) ?_
      refine w_gI (C := RX10) (T := TX10) (N := 64) (ci := 10) hx hb hts in10 hown hK hP 63 i10.1 i10 rfl (by decide) (hts _ mf_X10_183) dX10_check_27 ?_
      refine lv_topi (fun x27 ex27 => ?_)
      refine lv_iload_n hx hb dX10_check_30 rfl (lv_at hl 1 rfl) ?_
      refine lv_isub hx hb dX10_check_31 ?_
      refine lv_topi (fun x31 ex31 => ?_)
      refine lv_iconst (v := 1) hx hb dX10_check_32 (by decide) ?_
      refine lv_iadd hx hb dX10_check_33 ?_
      refine lv_topi (fun x33 ex33 => ?_)
      refine lv_aload_n hx hb dX10_check_34 rfl (lv_at hl 3 rfl) ?_
      have q2 := ch10_62 i10
      refine w_gR (C := RX10) (T := TX10) (N := 64) (ci := 10) hx hb hts in10 hown hK hP 62 i10.1 i10 rfl (by decide) q2.1 (hts _ mf_X10_180) dX10_check_35 ?_
      refine lv_iload_n hx hb dX10_check_38 rfl (lv_at hl 1 rfl) ?_
      refine lv_iconst (v := 1) hx hb dX10_check_39 (by decide) ?_
      refine lv_isub hx hb dX10_check_40 ?_
      refine lv_topi (fun x40 ex40 => ?_)
      refine w_ia (N := 20) hx hb hK hP q2.2.1.1 (q2.2.1) (q2.2.2) (by rw [ex40, nI_pred]; exact vp_in_nI (by omega) (by decide)) dX10_check_41 ?_
      refine lv_topi (fun x41 ex41 => ?_)
      refine lv_imul hx hb dX10_check_42 ?_
      refine lv_topi (fun x42 ex42 => ?_)
      refine lv_iadd hx hb dX10_check_43 ?_
      refine lv_topi (fun x43 ex43 => ?_)
      refine lv_istore_n (lv' := [(2, .int x43), (1, .int x23), (3, .int (nI (i + 1))), (0, .ref (base + 816))]) hx hb dX10_check_44 rfl hl (by decide) rfl (fun ls hl => ?_)
      obtain ⟨x45, ex45⟩ : ∃ y : Int32, y = (nI (i + 1)) + 1 := ⟨_, rfl⟩
      refine lv_iinc (v := x45) (lv' := [(3, .int x45), (2, .int x43), (1, .int x23), (0, .ref (base + 816))]) hx hb dX10_check_45 hl (k := 2) rfl (by rw [ex45]; first | rfl | (rw [show Int32.ofInt (-1) = (-1 : Int32) from by decide])) (by decide) rfl (fun ls hl => ?_)
      refine lv_goto (tgt := 6) hx hb dX10_check_48 (by decide) ?_
      exact ih (i + 1) x23 x43 _ _ _ (by omega) (by omega) (by rw [← nI_1 (i + 1), ← ex45]; exact lv_sub hl [0, 1, 2, 3] rfl) hP hS
set_option maxHeartbeats 4000000 in
set_option maxRecDepth 100000 in
/-- check() -/
theorem k_check (l : Launch) (dC : Nat → ClassId) (dI : Nat → Nat → Nat) (base : Nat) (cy : Nat → ClassId) (v : VV) (q : Nat) (hq : v 816 63 = nI q) (hq2 : q ≤ 20) (h : Nat) (hh : v 873 0 = nI (h + 1)) (hh2 : h + 1 < 20) : CV l yX10_check (.code yX10_check cX10_check 4 none :: TB) { frames := 1, cells := 0, slots := 0, locals := 21 } dC dI base cy [.ref (base + 816)] v (fun v' : VV => Fr (fun a => a = 873) v v') := by
  refine Met.ofW (cc := cX10_check) (maxL := 4) (ret := none) (by decide) rfl ?_
  intro p e s m args below meth c s₁ B hml hv
  obtain ⟨rfl, hP, hK⟩ := hv
  have hx := B.exec
  have hb := B.bytes
  have hr := B.returns
  have hts0 := atoms_spec (ws := (.code yX10_check cX10_check 4 none :: TB)) B.pre
  have hts : ∀ w ∈ TB, w.before ([.ref (base + 816)]).toArray s = true := fun w h => hts0 w (List.mem_cons_of_mem _ h)
  have hown : s.vm.findClass RX10 = some m.cls := findClass_of_methodNamed B.named
  have hlocks := B.notSynchronized
  have hS : va_S (fun q => base ≤ q) s.heap s.heap [] := va_S.rf
  have hl := lv_entry ([.ref (base + 816)]) (n := 4) (Nat.le_of_ble_eq_true rfl)
  rw [lg_entry_eq]
  generalize (lg_sl ([.ref (base + 816)]) ++ List.replicate (4 - (lg_sl ([.ref (base + 816)])).length) Slot.unset).toArray = ls at hl ⊢
  have hl : lv_has ls 4 [(0, .ref (base + 816))] := hl
  refine lv_iconst (v := 0) hx hb dX10_check_0 (by decide) ?_
  refine lv_istore_n (lv' := [(1, .int 0), (0, .ref (base + 816))]) hx hb dX10_check_1 rfl hl (by decide) rfl (fun ls hl => ?_)
  refine lv_iconst (v := 0) hx hb dX10_check_2 (by decide) ?_
  refine lv_istore_n (lv' := [(2, .int 0), (1, .int 0), (0, .ref (base + 816))]) hx hb dX10_check_3 rfl hl (by decide) rfl (fun ls hl => ?_)
  refine lv_iconst (v := 1) hx hb dX10_check_4 (by decide) ?_
  refine lv_istore_n (lv' := [(3, .int 1), (2, .int 0), (1, .int 0), (0, .ref (base + 816))]) hx hb dX10_check_5 rfl hl (by decide) rfl (fun ls hl => ?_)
  refine lpk_check hx hb hml hown hts hK ⟨Nat.zero_le _, Nat.zero_le _⟩ hq hq2 (fun x y H locs ls hl hP hS => ?_) (q + 1) 0 0 0 _ _ _ (by omega) (by omega) (lv_sub hl [0, 1, 2, 3] rfl) hP hS
  refine lv_aload_n hx hb dX10_check_51 rfl (lv_at hl 2 rfl) ?_
  have q1 := ch10_62 i10
  refine w_gR (C := RX10) (T := TX10) (N := 64) (ci := 10) hx hb hts in10 hown hK hP 62 i10.1 i10 rfl (by decide) q1.1 (hts _ mf_X10_180) dX10_check_52 ?_
  refine lv_iconst (v := 0) hx hb dX10_check_55 (by decide) ?_
  refine w_ia (N := 20) hx hb hK hP q1.2.1.1 (q1.2.1) (q1.2.2) (vp_in_nI (n := 0) (by decide) (by decide)) dX10_check_56 ?_
  refine lv_topi (fun x56 ex56 => ?_)
  have e57 : x56 = nI (h + 1) := by rw [ex56]; exact hh
  refine lv_istore_n (lv' := [(3, .int x56), (2, .int y), (1, .int x), (0, .ref (base + 816))]) hx hb dX10_check_57 rfl hl (by decide) rfl (fun ls hl => ?_)
  refine lv_aload_n hx hb dX10_check_58 rfl (lv_at hl 3 rfl) ?_
  have q2 := ch10_62 i10
  refine w_gR (C := RX10) (T := TX10) (N := 64) (ci := 10) hx hb hts in10 hown hK hP 62 i10.1 i10 rfl (by decide) q2.1 (hts _ mf_X10_180) dX10_check_59 ?_
  refine lv_iload_n hx hb dX10_check_62 rfl (lv_at hl 0 rfl) ?_
  refine lv_iconst (v := 1) hx hb dX10_check_63 (by decide) ?_
  refine lv_isub hx hb dX10_check_64 ?_
  refine lv_topi (fun x64 ex64 => ?_)
  refine lv_aload_n hx hb dX10_check_65 rfl (lv_at hl 3 rfl) ?_
  refine w_gI (C := RX10) (T := TX10) (N := 64) (ci := 10) hx hb hts in10 hown hK hP 63 i10.1 i10 rfl (by decide) (hts _ mf_X10_183) dX10_check_66 ?_
  refine lv_topi (fun x66 ex66 => ?_)
  refine lv_iload_n hx hb dX10_check_69 rfl (lv_at hl 0 rfl) ?_
  refine lv_isub hx hb dX10_check_70 ?_
  refine lv_topi (fun x70 ex70 => ?_)
  refine lv_iload_n hx hb dX10_check_71 rfl (lv_at hl 2 rfl) ?_
  refine lv_imul hx hb dX10_check_72 ?_
  refine lv_topi (fun x72 ex72 => ?_)
  refine lv_iload_n hx hb dX10_check_73 rfl (lv_at hl 1 rfl) ?_
  refine lv_isub hx hb dX10_check_74 ?_
  refine lv_topi (fun x74 ex74 => ?_)
  refine kS_I (As := [.int x74]) (rest := [.int x64, .ref (base + 873)]) ⟨hx, hb, hml, hown, hts⟩ (k_mod255 l dC dI base cy v x74) (cwS 1 hts (gS ml_X10_191 mt_X10_mod255 mn_X10 mo_X10_mod255) rfl rfl rfl (by decide +kernel) ⟨by decide, by decide⟩) hK hP hS rfl hl.1 rfl (Nat.le_of_ble_eq_true rfl) dX10_check_75 ⟨Nat.zero_le _, Nat.zero_le _⟩ (fun x75 v3 H locs hv3 hP hS => ?_)
  rw [hv3] at hP
  refine w_is (N := 20) hx hb hK hP hS q2.2.1.1 (q2.2.1) (q2.2.2) (by rw [ex64, e57, nI_pred]; exact vp_in_nI (by omega) (by decide)) dX10_check_78 (fun v4 H locs hv4 hP hz hS => ?_)
  refine lv_aload_n hx hb dX10_check_79 rfl (lv_at hl 3 rfl) ?_
  have q5 := ch10_62 i10
  refine w_gR (C := RX10) (T := TX10) (N := 64) (ci := 10) hx hb hts in10 hown hK hP 62 i10.1 i10 rfl (by decide) q5.1 (hts _ mf_X10_180) dX10_check_80 ?_
  refine lv_iload_n hx hb dX10_check_83 rfl (lv_at hl 0 rfl) ?_
  refine lv_iload_n hx hb dX10_check_84 rfl (lv_at hl 1 rfl) ?_
  refine lv_aload_n hx hb dX10_check_85 rfl (lv_at hl 3 rfl) ?_
  refine w_gI (C := RX10) (T := TX10) (N := 64) (ci := 10) hx hb hts in10 hown hK hP 63 i10.1 i10 rfl (by decide) (hts _ mf_X10_183) dX10_check_86 ?_
  refine lv_topi (fun x86 ex86 => ?_)
  refine lv_iload_n hx hb dX10_check_89 rfl (lv_at hl 0 rfl) ?_
  refine lv_isub hx hb dX10_check_90 ?_
  refine lv_topi (fun x90 ex90 => ?_)
  refine lv_iconst (v := 1) hx hb dX10_check_91 (by decide) ?_
  refine lv_iadd hx hb dX10_check_92 ?_
  refine lv_topi (fun x92 ex92 => ?_)
  refine lv_iload_n hx hb dX10_check_93 rfl (lv_at hl 2 rfl) ?_
  refine lv_imul hx hb dX10_check_94 ?_
  refine lv_topi (fun x94 ex94 => ?_)
  refine lv_isub hx hb dX10_check_95 ?_
  refine lv_topi (fun x95 ex95 => ?_)
  refine kS_I (As := [.int x95]) (rest := [.int x56, .ref (base + 873)]) ⟨hx, hb, hml, hown, hts⟩ (k_mod255 l dC dI base cy v4 x95) (cwS 1 hts (gS ml_X10_191 mt_X10_mod255 mn_X10 mo_X10_mod255) rfl rfl rfl (by decide +kernel) ⟨by decide, by decide⟩) hK hP hS rfl hl.1 rfl (Nat.le_of_ble_eq_true rfl) dX10_check_96 ⟨Nat.zero_le _, Nat.zero_le _⟩ (fun x96 v6 H locs hv6 hP hS => ?_)
  rw [hv6] at hP
  refine w_is (N := 20) hx hb hK hP hS q5.2.1.1 (q5.2.1) (q5.2.2) (by rw [e57]; exact vp_in_nI (by omega) (by decide)) dX10_check_99 (fun v7 H locs hv7 hP hz hS => ?_)
  exact W.vret hx hb hr (fun t ht hW => ⟨⟨v7, rfl, by
      subst hv7 hv4
      repeat (first | exact Fr.rf | refine Fr.up ?_ _ _ _ (by decide)), by rw [ht]; exact hP, va_K.moved hW.alike hK⟩, hS.F ht⟩) hS.2.2 dX10_check_100
set_option maxHeartbeats 4000000 in
set_option maxRecDepth 100000 in
/-- the loop of sendMade -/
theorem lpk_sendMade {p : Program} {l : Launch} {e : Env} {R : Room} {s : State} {m : MethodId} {args : Array Value} {below : List Frame} {meth : Method} {c : Code} {cells slots : Nat} {Q : State → Prop} {dC : Nat → ClassId} {dI : Nat → Nat → Nat} {base : Nat} {cy : Nat → ClassId} {H0 : Heap} (hx : p.tables.exec = Jvm.exec) (hb : c.code = cX10_sendMade) (hml : c.maxLocals = 4) (hown : s.vm.findClass RX10 = some m.cls) (hts : ∀ w ∈ TB, w.before args s = true) (hK : va_K (dC, dI) vwCl (tyL cy) s) (hcs : cells ≤ R.cells ∧ slots ≤ R.slots) {p1 : Int32} {v0 : VV} {q : Nat} (hq2 : q ≤ 20) (hex : ∀ (v : VV) (H : Heap) (locs : List Loc) (ls : Array Slot), Fr (fun a => a = 868) v0 v → lv_has ls 4 [(2, .int 0), (0, .ref (base + 816)), (1, .int p1)] → va_P (dC, dI) vwCl (Wd base cy rf v 874) H → va_S (fun q => base ≤ q) H0 H locs → W p l e R s m args below meth c H locs cells slots Q (F0 m 42 ls [])) : ∀ (k : Nat) (i : Nat) (v : VV) (H : Heap) (locs : List Loc) (ls : Array Slot), i ≤ q → q + 1 ≤ i + k → v 816 63 = nI q → Fr (fun a => a = 868) v0 v → lv_has ls 4 [(3, .int (nI i)), (2, .int 0), (0, .ref (base + 816)), (1, .int p1)] → va_P (dC, dI) vwCl (Wd base cy rf v 874) H → va_S (fun q => base ≤ q) H0 H locs → W p l e R s m args below meth c H locs cells slots Q (F0 m 11 ls []) := by
  intro k
  induction k with
  | zero =>
    intro i v H locs ls hi hk hq hF hl hP hS
    omega
  | succ k ih =>
    intro i v H locs ls hi hk hq hF hl hP hS
    refine lv_iload_n hx hb dX10_sendMade_11 rfl (lv_at hl 0 rfl) ?_
    refine lv_aload_n hx hb dX10_sendMade_12 rfl (lv_at hl 2 rfl) ?_
    refine w_gI (C := RX10) (T := TX10) (N := 64) (ci := 10) hx hb hts in10 hown hK hP 63 i10.1 i10 rfl (by decide) (hts _ mf_X10_183) dX10_sendMade_13 ?_
    refine lv_topi (fun x13 ex13 => ?_)
    refine lv_icmp_ge (tgt := 42) hx hb dX10_sendMade_16 (by decide) (fun c16 => ?_) (fun c16 => ?_)
    · exact hex _ _ _ _ hF (lv_sub hl [1, 2, 3] rfl) hP hS
    · have hi2 : i < q := Nat.lt_of_not_le (fun w => c16 (by rw [ex13, hq]; exact nI_le w (by omega)))
      refine lv_aload_n hx hb dX10_sendMade_19 rfl (lv_at hl 2 rfl) ?_
      have q1 := ch10_56 i10
      refine w_gR (C := RX10) (T := TX10) (N := 64) (ci := 10) hx hb hts in10 hown hK hP 56 i10.1 i10 rfl (by decide) q1.1 (hts _ mf_X10_165) dX10_sendMade_20 ?_
      refine lv_bipush (v := 20) hx hb dX10_sendMade_23 (by decide) ?_
      refine lv_iload_n hx hb dX10_sendMade_25 rfl (lv_at hl 1 rfl) ?_
      refine lv_imul hx hb dX10_sendMade_26 ?_
      refine lv_topi (fun x26 ex26 => ?_)
      refine lv_iload_n hx hb dX10_sendMade_27 rfl (lv_at hl 0 rfl) ?_
      refine lv_iadd hx hb dX10_sendMade_28 ?_
      refine lv_topi (fun x28 ex28 => ?_)
      refine lv_aload_n hx hb dX10_sendMade_29 rfl (lv_at hl 2 rfl) ?_
      have q2 := ch10_62 i10
      refine w_gR (C := RX10) (T := TX10) (N := 64) (ci := 10) hx hb hts in10 hown hK hP 62 i10.1 i10 rfl (by decide) q2.1 (hts _ mf_X10_180) dX10_sendMade_30 ?_
      refine lv_iload_n hx hb dX10_sendMade_33 rfl (lv_at hl 0 rfl) ?_
      refine w_ia (N := 20) hx hb hK hP q2.2.1.1 (q2.2.1) (q2.2.2) (vp_in_nI (by omega) (by decide)) dX10_sendMade_34 ?_
      refine lv_topi (fun x34 ex34 => ?_)
      refine w_is (N := 81920) hx hb hK hP hS q1.2.1.1 (q1.2.1) (q1.2.2) (by rw [ex28, ex26, show (20 : Int32) * 0 = nI 0 from rfl, nI_add]; exact vp_in_nI (by omega) (by decide)) dX10_sendMade_35 (fun v3 H locs hv3 hP hz hS => ?_)
      obtain ⟨x36, ex36⟩ : ∃ y : Int32, y = (nI i) + 1 := ⟨_, rfl⟩
      refine lv_iinc (v := x36) (lv' := [(3, .int x36), (2, .int 0), (0, .ref (base + 816)), (1, .int p1)]) hx hb dX10_sendMade_36 hl (k := 0) rfl (by rw [ex36]; first | rfl | (rw [show Int32.ofInt (-1) = (-1 : Int32) from by decide])) (by decide) rfl (fun ls hl => ?_)
      refine lv_goto (tgt := 11) hx hb dX10_sendMade_39 (by decide) ?_
      exact ih (i + 1) v3 _ _ _ (by omega) (by omega) (by rw [hv3, up2_o _ _ _ _ _ (by decide)]; exact hq) (by rw [hv3]; exact hF.up _ _ _ (by decide)) (by rw [← nI_1 i, ← ex36]; exact lv_sub hl [0, 1, 2, 3] rfl) hP hS
set_option maxHeartbeats 4000000 in
set_option maxRecDepth 100000 in
/-- sendMade(end), the first one -/
theorem k_sendMade (l : Launch) (dC : Nat → ClassId) (dI : Nat → Nat → Nat) (base : Nat) (cy : Nat → ClassId) (v : VV) (p1 : Int32) (j : Nat) (hj : p1 = nI j) (hj2 : j < 2) (q : Nat) (hq : v 816 63 = nI q) (hq2 : q ≤ 20) (h54 : v 816 54 = 0) : CV l yX10_sendMade (.code yX10_sendMade cX10_sendMade 4 none :: TB) { frames := 0, cells := 0, slots := 0, locals := 0 } dC dI base cy [.ref (base + 816), .int p1] v (fun v' : VV => Fr (fun a => a = 816 ∨ a = 823 ∨ 868 ≤ a ∧ a ≤ 871) v v' ∧ v' 816 63 = nI q) := by
  refine Met.ofW (cc := cX10_sendMade) (maxL := 4) (ret := none) (by decide) rfl ?_
  intro p e s m args below meth c s₁ B hml hv
  obtain ⟨rfl, hP, hK⟩ := hv
  have hx := B.exec
  have hb := B.bytes
  have hr := B.returns
  have hts0 := atoms_spec (ws := (.code yX10_sendMade cX10_sendMade 4 none :: TB)) B.pre
  have hts : ∀ w ∈ TB, w.before ([.ref (base + 816), .int p1]).toArray s = true := fun w h => hts0 w (List.mem_cons_of_mem _ h)
  have hown : s.vm.findClass RX10 = some m.cls := findClass_of_methodNamed B.named
  have hlocks := B.notSynchronized
  have hS : va_S (fun q => base ≤ q) s.heap s.heap [] := va_S.rf
  have hl := lv_entry ([.ref (base + 816), .int p1]) (n := 4) (Nat.le_of_ble_eq_true rfl)
  rw [lg_entry_eq]
  generalize (lg_sl ([.ref (base + 816), .int p1]) ++ List.replicate (4 - (lg_sl ([.ref (base + 816), .int p1])).length) Slot.unset).toArray = ls at hl ⊢
  have hl : lv_has ls 4 [(0, .ref (base + 816)), (1, .int p1)] := hl
  refine lv_aload_n hx hb dX10_sendMade_0 rfl (lv_at hl 0 rfl) ?_
  refine w_gI (C := RX10) (T := TX10) (N := 64) (ci := 10) hx hb hts in10 hown hK hP 54 i10.1 i10 rfl (by decide) (hts _ mf_X10_195) dX10_sendMade_1 ?_
  refine lv_topi (fun x1 ex1 => ?_)
  refine lv_sipush (v := 4096) hx hb dX10_sendMade_4 (by decide) ?_
  refine lv_irem hx hb dX10_sendMade_7 (by decide) ?_
  refine lv_topi (fun x7 ex7 => ?_)
  have e8 : x7 = 0 := by rw [ex7, ex1, h54]; decide
  refine lv_istore_n (lv' := [(2, .int x7), (0, .ref (base + 816)), (1, .int p1)]) hx hb dX10_sendMade_8 rfl hl (by decide) rfl (fun ls hl => ?_)
  refine lv_iconst (v := 0) hx hb dX10_sendMade_9 (by decide) ?_
  refine lv_istore_n (lv' := [(3, .int 0), (2, .int x7), (0, .ref (base + 816)), (1, .int p1)]) hx hb dX10_sendMade_10 rfl hl (by decide) rfl (fun ls hl => ?_)
  refine lpk_sendMade hx hb hml hown hts hK ⟨Nat.zero_le _, Nat.zero_le _⟩ hq2 (fun w H locs ls hF hl hP hS => ?_) (q + 1) 0 v _ _ _ (by omega) (by omega) hq Fr.rf (by rw [← e8]; exact lv_sub hl [0, 1, 2, 3] rfl) hP hS
  refine lv_aload_n hx hb dX10_sendMade_42 rfl (lv_at hl 1 rfl) ?_
  have q1 := ch10_57 i10
  refine w_gR (C := RX10) (T := TX10) (N := 64) (ci := 10) hx hb hts in10 hown hK hP 57 i10.1 i10 rfl (by decide) q1.1 (hts _ mf_X10_168) dX10_sendMade_43 ?_
  refine lv_iload_n hx hb dX10_sendMade_46 rfl (lv_at hl 0 rfl) ?_
  refine lv_aload_n hx hb dX10_sendMade_47 rfl (lv_at hl 1 rfl) ?_
  refine w_gI (C := RX10) (T := TX10) (N := 64) (ci := 10) hx hb hts in10 hown hK hP 63 i10.1 i10 rfl (by decide) (hts _ mf_X10_183) dX10_sendMade_48 ?_
  refine lv_topi (fun x48 ex48 => ?_)
  refine w_is (N := 4096) hx hb hK hP hS q1.2.1.1 (q1.2.1) (q1.2.2) (vp_in_nI (n := 0) (by decide) (by decide)) dX10_sendMade_51 (fun v2 H locs hv2 hP hz hS => ?_)
  refine lv_aload_n hx hb dX10_sendMade_52 rfl (lv_at hl 1 rfl) ?_
  have q3 := ch10_58 i10
  refine w_gR (C := RX10) (T := TX10) (N := 64) (ci := 10) hx hb hts in10 hown hK hP 58 i10.1 i10 rfl (by decide) q3.1 (hts _ mf_X10_171) dX10_sendMade_53 ?_
  refine lv_iload_n hx hb dX10_sendMade_56 rfl (lv_at hl 0 rfl) ?_
  refine lv_iconst (v := 1) hx hb dX10_sendMade_57 (by decide) ?_
  refine lv_iload_n hx hb dX10_sendMade_58 rfl (lv_at hl 2 rfl) ?_
  refine lv_isub hx hb dX10_sendMade_59 ?_
  refine lv_topi (fun x59 ex59 => ?_)
  refine w_is (N := 4096) hx hb hK hP hS q3.2.1.1 (q3.2.1) (q3.2.2) (vp_in_nI (n := 0) (by decide) (by decide)) dX10_sendMade_60 (fun v4 H locs hv4 hP hz hS => ?_)
  refine lv_aload_n hx hb dX10_sendMade_61 rfl (lv_at hl 1 rfl) ?_
  have q5 := ch10_59 i10
  refine w_gR (C := RX10) (T := TX10) (N := 64) (ci := 10) hx hb hts in10 hown hK hP 59 i10.1 i10 rfl (by decide) q5.1 (hts _ mf_X10_174) dX10_sendMade_62 ?_
  refine lv_iload_n hx hb dX10_sendMade_65 rfl (lv_at hl 0 rfl) ?_
  refine lv_aload_n hx hb dX10_sendMade_66 rfl (lv_at hl 1 rfl) ?_
  refine w_gI (C := RX10) (T := TX10) (N := 64) (ci := 10) hx hb hts in10 hown hK hP 0 i10.1 i10 rfl (by decide) (hts _ mf_X10_198) dX10_sendMade_67 ?_
  refine lv_topi (fun x67 ex67 => ?_)
  refine w_is (N := 4096) hx hb hK hP hS q5.2.1.1 (q5.2.1) (q5.2.2) (vp_in_nI (n := 0) (by decide) (by decide)) dX10_sendMade_70 (fun v6 H locs hv6 hP hz hS => ?_)
  refine lv_aload_n hx hb dX10_sendMade_71 rfl (lv_at hl 1 rfl) ?_
  refine lv_dup hx hb dX10_sendMade_72 rfl ?_
  refine w_gI (C := RX10) (T := TX10) (N := 64) (ci := 10) hx hb hts in10 hown hK hP 54 i10.1 i10 rfl (by decide) (hts _ mf_X10_195) dX10_sendMade_73 ?_
  refine lv_topi (fun x73 ex73 => ?_)
  refine lv_iconst (v := 1) hx hb dX10_sendMade_76 (by decide) ?_
  refine lv_iadd hx hb dX10_sendMade_77 ?_
  refine lv_topi (fun x77 ex77 => ?_)
  refine w_pI (C := RX10) (T := TX10) (N := 64) (ci := 10) hx hb hts in10 tyX10 tyX10_ok nmX10 hown hK hP hS 54 i10.1 i10 rfl (by decide) (hts _ mf_X10_195) rfl (ty := .int) (by decide +kernel) rfl rfl dX10_sendMade_78 (fun v7 H locs hv7 hP hz hS => ?_)
  refine lv_aload_n hx hb dX10_sendMade_81 rfl (lv_at hl 1 rfl) ?_
  have q8 := ch10_7 i10
  refine w_gR (C := RX10) (T := TX10) (N := 64) (ci := 10) hx hb hts in10 hown hK hP 7 i10.1 i10 rfl (by decide) q8.1 (hts _ mf_X10_29) dX10_sendMade_82 ?_
  refine lv_iload_n hx hb dX10_sendMade_85 rfl (lv_at hl 2 rfl) ?_
  refine lv_aload_n hx hb dX10_sendMade_86 rfl (lv_at hl 1 rfl) ?_
  refine w_gI (C := RX10) (T := TX10) (N := 64) (ci := 10) hx hb hts in10 hown hK hP 0 i10.1 i10 rfl (by decide) (hts _ mf_X10_198) dX10_sendMade_87 ?_
  refine lv_topi (fun x87 ex87 => ?_)
  refine w_is (N := 2) hx hb hK hP hS q8.2.1.1 (q8.2.1) (q8.2.2) (by rw [hj]; exact vp_in_nI hj2 (by decide)) dX10_sendMade_90 (fun v9 H locs hv9 hP hz hS => ?_)
  exact W.vret hx hb hr (fun t ht hW => ⟨⟨v9, rfl, by
      subst hv9 hv7 hv6 hv4 hv2
      refine ⟨(hF.w (fun a h => by omega)).tr (by repeat (first | exact Fr.rf | refine Fr.up ?_ _ _ _ (by omega))), ?_⟩
      rw [up2_o _ _ _ _ _ (by decide), up2_k _ _ _ _ (by decide), up2_o _ _ _ _ _ (by decide), up2_o _ _ _ _ _ (by decide), up2_o _ _ _ _ _ (by decide), hF 816 (by decide)]
      exact hq, by rw [ht]; exact hP, va_K.moved hW.alike hK⟩, hS.F ht⟩) hS.2.2 dX10_sendMade_91
set_option maxHeartbeats 4000000 in
set_option maxRecDepth 100000 in
/-- sendCode with a last byte, the first one -/
theorem k_sendCode (l : Launch) (dC : Nat → ClassId) (dI : Nat → Nat → Nat) (base : Nat) (cy : Nat → ClassId) (v : VV) (p1 p2 p3 p4 p5 : Int32) (j : Nat) (hj : p1 = nI j) (hj2 : j < 2) (hp5 : ¬ p5 < 0) (h54 : v 816 54 = 0) : CV l yX10_sendCode (.code yX10_sendCode cX10_sendCode 6 none :: TB) { frames := 2, cells := 0, slots := 0, locals := 48 } dC dI base cy [.ref (base + 816), .int p1, .int p2, .int p3, .int p4, .int p5] v (fun v' : VV => Fr (fun a => a = 816 ∨ a = 823 ∨ a = 873 ∨ 868 ≤ a ∧ a ≤ 871) v v' ∧ v' 816 63 = nI 11) := by
  refine Met.ofW (cc := cX10_sendCode) (maxL := 6) (ret := none) (by decide) rfl ?_
  intro p e s m args below meth c s₁ B hml hv
  obtain ⟨rfl, hP, hK⟩ := hv
  have hx := B.exec
  have hb := B.bytes
  have hr := B.returns
  have hts0 := atoms_spec (ws := (.code yX10_sendCode cX10_sendCode 6 none :: TB)) B.pre
  have hts : ∀ w ∈ TB, w.before ([.ref (base + 816), .int p1, .int p2, .int p3, .int p4, .int p5]).toArray s = true := fun w h => hts0 w (List.mem_cons_of_mem _ h)
  have hown : s.vm.findClass RX10 = some m.cls := findClass_of_methodNamed B.named
  have hlocks := B.notSynchronized
  have hS : va_S (fun q => base ≤ q) s.heap s.heap [] := va_S.rf
  have hl := lv_entry ([.ref (base + 816), .int p1, .int p2, .int p3, .int p4, .int p5]) (n := 6) (Nat.le_of_ble_eq_true rfl)
  rw [lg_entry_eq]
  generalize (lg_sl ([.ref (base + 816), .int p1, .int p2, .int p3, .int p4, .int p5]) ++ List.replicate (6 - (lg_sl ([.ref (base + 816), .int p1, .int p2, .int p3, .int p4, .int p5])).length) Slot.unset).toArray = ls at hl ⊢
  have hl : lv_has ls 6 [(0, .ref (base + 816)), (1, .int p1), (2, .int p2), (3, .int p3), (4, .int p4), (5, .int p5)] := hl
  refine lv_aload_n hx hb dX10_sendCode_0 rfl (lv_at hl 0 rfl) ?_
  refine lv_iload_n hx hb dX10_sendCode_1 rfl (lv_at hl 2 rfl) ?_
  refine lv_iload_n hx hb dX10_sendCode_2 rfl (lv_at hl 3 rfl) ?_
  refine k_V (As := [.int p2, .int p3]) (rest := []) ⟨hx, hb, hml, hown, hts⟩ (k_begin l dC dI base cy v p2 p3) (cwV 2 hts (gV ml_X10_201 mi_X10_begin mx_X10_begin mn_X10 mo_X10_begin) rfl rfl rfl (by decide +kernel) ⟨by decide, by decide⟩) hK hP hS i10 (by decide) rfl rfl hl.1 rfl (Nat.le_of_ble_eq_true rfl) dX10_sendCode_3 ⟨Nat.zero_le _, Nat.zero_le _⟩ (fun v1 H locs hv1 hP hS => ?_)
  have g1 := hv1
  refine lv_aload_n hx hb dX10_sendCode_6 rfl (lv_at hl 0 rfl) ?_
  refine lv_iload hx hb dX10_sendCode_7 (lv_at hl 4 rfl) ?_
  refine lv_sipush (v := 256) hx hb dX10_sendCode_9 (by decide) ?_
  refine lv_idiv hx hb dX10_sendCode_12 (by decide) ?_
  refine lv_topi (fun x12 ex12 => ?_)
  refine k_V (As := [.int x12]) (rest := []) ⟨hx, hb, hml, hown, hts⟩ (k_push l dC dI base cy v1 x12 4 g1.2.2 (by decide)) (cwV 1 hts (gV ml_X10_187 mi_X10_push mx_X10_push mn_X10 mo_X10_push) rfl rfl rfl (by decide +kernel) ⟨by decide, by decide⟩) hK hP hS i10 (by decide) rfl rfl hl.1 rfl (Nat.le_of_ble_eq_true rfl) dX10_sendCode_13 ⟨Nat.zero_le _, Nat.zero_le _⟩ (fun v2 H locs hv2 hP hS => ?_)
  have g2 := g1.tr (push_MP hv2)
  refine lv_aload_n hx hb dX10_sendCode_16 rfl (lv_at hl 0 rfl) ?_
  refine lv_iload hx hb dX10_sendCode_17 (lv_at hl 4 rfl) ?_
  refine lv_sipush (v := 256) hx hb dX10_sendCode_19 (by decide) ?_
  refine lv_irem hx hb dX10_sendCode_22 (by decide) ?_
  refine lv_topi (fun x22 ex22 => ?_)
  refine k_V (As := [.int x22]) (rest := []) ⟨hx, hb, hml, hown, hts⟩ (k_push l dC dI base cy v2 x22 5 g2.2.2 (by decide)) (cwV 1 hts (gV ml_X10_187 mi_X10_push mx_X10_push mn_X10 mo_X10_push) rfl rfl rfl (by decide +kernel) ⟨by decide, by decide⟩) hK hP hS i10 (by decide) rfl rfl hl.1 rfl (Nat.le_of_ble_eq_true rfl) dX10_sendCode_23 ⟨Nat.zero_le _, Nat.zero_le _⟩ (fun v3 H locs hv3 hP hS => ?_)
  have g3 := g2.tr (push_MP hv3)
  refine lv_iload hx hb dX10_sendCode_26 (lv_at hl 5 rfl) ?_
  refine lv_if_lt (tgt := 37) hx hb dX10_sendCode_28 (by decide) (fun c28 => ?_) (fun c28 => ?_)
  · exact absurd c28 hp5
  · refine lv_aload_n hx hb dX10_sendCode_31 rfl (lv_at hl 0 rfl) ?_
    refine lv_iload hx hb dX10_sendCode_32 (lv_at hl 5 rfl) ?_
    refine k_V (As := [.int p5]) (rest := []) ⟨hx, hb, hml, hown, hts⟩ (k_push l dC dI base cy v3 p5 6 g3.2.2 (by decide)) (cwV 1 hts (gV ml_X10_187 mi_X10_push mx_X10_push mn_X10 mo_X10_push) rfl rfl rfl (by decide +kernel) ⟨by decide, by decide⟩) hK hP hS i10 (by decide) rfl rfl hl.1 rfl (Nat.le_of_ble_eq_true rfl) dX10_sendCode_34 ⟨Nat.zero_le _, Nat.zero_le _⟩ (fun v4 H locs hv4 hP hS => ?_)
    have g4 := g3.tr (push_MP hv4)
    refine lv_aload_n hx hb dX10_sendCode_37 rfl (lv_at hl 0 rfl) ?_
    refine k_V (As := []) (rest := []) ⟨hx, hb, hml, hown, hts⟩ (k_endHead l dC dI base cy v4 7 g4.2.2 (by decide)) (cwV 0 hts (gV ml_X10_205 mi_X10_endHead mx_X10_endHead mn_X10 mo_X10_endHead) rfl rfl rfl (by decide +kernel) ⟨by decide, by decide⟩) hK hP hS i10 (by decide) rfl rfl hl.1 rfl (Nat.le_of_ble_eq_true rfl) dX10_sendCode_38 ⟨Nat.zero_le _, Nat.zero_le _⟩ (fun v5 H locs hv5 hP hS => ?_)
    have g5 := g4.tr hv5.1
    have n5 := hv5.2
    refine lv_aload_n hx hb dX10_sendCode_41 rfl (lv_at hl 0 rfl) ?_
    refine k_V (As := []) (rest := []) ⟨hx, hb, hml, hown, hts⟩ (k_check l dC dI base cy v5 11 g5.2.2 (by decide) 9 n5 (by decide)) (cwV 0 hts (gV ml_X10_208 mi_X10_check mx_X10_check mn_X10 mo_X10_check) rfl rfl rfl (by decide +kernel) ⟨by decide, by decide⟩) hK hP hS i10 (by decide) rfl rfl hl.1 rfl (Nat.le_of_ble_eq_true rfl) dX10_sendCode_42 ⟨Nat.zero_le _, Nat.zero_le _⟩ (fun v6 H locs hv6 hP hS => ?_)
    have g6 := hv6
    refine lv_aload_n hx hb dX10_sendCode_45 rfl (lv_at hl 0 rfl) ?_
    refine lv_iload_n hx hb dX10_sendCode_46 rfl (lv_at hl 1 rfl) ?_
    refine k_V (As := [.int p1]) (rest := []) ⟨hx, hb, hml, hown, hts⟩ (k_sendMade l dC dI base cy v6 p1 j hj hj2 11 (by rw [g6 816 (by decide)]; exact g5.2.2) (by decide) (by rw [g6 816 (by decide), g5.2.1 54 (by decide)]; exact h54)) (cwV 1 hts (gV ml_X10_211 mi_X10_sendMade mx_X10_sendMade mn_X10 mo_X10_sendMade) rfl rfl rfl (by decide +kernel) ⟨by decide, by decide⟩) hK hP hS i10 (by decide) rfl rfl hl.1 rfl (Nat.le_of_ble_eq_true rfl) dX10_sendCode_47 ⟨Nat.zero_le _, Nat.zero_le _⟩ (fun v7 H locs hv7 hP hS => ?_)
    have g7 := hv7
    exact W.vret hx hb hr (fun t ht hW => ⟨⟨v7, rfl, ⟨((g5.1.w (fun a h => by omega)).tr (g6.w (fun a h => by omega))).tr (g7.1.w (fun a h => by omega)), g7.2⟩, by rw [ht]; exact hP, va_K.moved hW.alike hK⟩, hS.F ht⟩) hS.2.2 dX10_sendCode_50
set_option maxHeartbeats 4000000 in
set_option maxRecDepth 100000 in
/-- the loop of wait -/
theorem lpk_wait {p : Program} {l : Launch} {e : Env} {R : Room} {s : State} {m : MethodId} {args : Array Value} {below : List Frame} {meth : Method} {c : Code} {cells slots : Nat} {Q : State → Prop} {dC : Nat → ClassId} {dI : Nat → Nat → Nat} {base : Nat} {cy : Nat → ClassId} {H0 : Heap} (hx : p.tables.exec = Jvm.exec) (hb : c.code = cX10_wait) (hml : c.maxLocals = 3) (hown : s.vm.findClass RX10 = some m.cls) (hts : ∀ w ∈ TB, w.before args s = true) (hK : va_K (dC, dI) vwCl (tyL cy) s) (hcs : cells ≤ R.cells ∧ slots ≤ R.slots) {p1 : Int32} {v0 : VV} {j : Nat} (hj : p1 = nI j) (hj2 : j < 2) {q : Nat} (hq2 : q ≤ 20) (hex : ∀ (v : VV) (H : Heap) (locs : List Loc) (ls : Array Slot), Fr (fun a => a = 828) v0 v → lv_has ls 3 [(0, .ref (base + 816)), (1, .int p1)] → va_P (dC, dI) vwCl (Wd base cy rf v 874) H → va_S (fun q => base ≤ q) H0 H locs → W p l e R s m args below meth c H locs cells slots Q (F0 m 60 ls [])) : ∀ (k : Nat) (i : Nat) (v : VV) (H : Heap) (locs : List Loc) (ls : Array Slot), i ≤ q → q + 1 ≤ i + k → v 816 63 = nI q → Fr (fun a => a = 828) v0 v → lv_has ls 3 [(2, .int (nI i)), (0, .ref (base + 816)), (1, .int p1)] → va_P (dC, dI) vwCl (Wd base cy rf v 874) H → va_S (fun q => base ≤ q) H0 H locs → W p l e R s m args below meth c H locs cells slots Q (F0 m 29 ls []) := by
  intro k
  induction k with
  | zero =>
    intro i v H locs ls hi hk hq hF hl hP hS
    omega
  | succ k ih =>
    intro i v H locs ls hi hk hq hF hl hP hS
    refine lv_iload_n hx hb dX10_wait_29 rfl (lv_at hl 0 rfl) ?_
    refine lv_aload_n hx hb dX10_wait_30 rfl (lv_at hl 1 rfl) ?_
    refine w_gI (C := RX10) (T := TX10) (N := 64) (ci := 10) hx hb hts in10 hown hK hP 63 i10.1 i10 rfl (by decide) (hts _ mf_X10_183) dX10_wait_31 ?_
    refine lv_topi (fun x31 ex31 => ?_)
    refine lv_icmp_ge (tgt := 60) hx hb dX10_wait_34 (by decide) (fun c34 => ?_) (fun c34 => ?_)
    · exact hex _ _ _ _ hF (lv_sub hl [1, 2] rfl) hP hS
    · have hi2 : i < q := Nat.lt_of_not_le (fun w => c34 (by rw [ex31, hq]; exact nI_le w (by omega)))
      refine lv_aload_n hx hb dX10_wait_37 rfl (lv_at hl 1 rfl) ?_
      have q1 := ch10_12 i10
      refine w_gR (C := RX10) (T := TX10) (N := 64) (ci := 10) hx hb hts in10 hown hK hP 12 i10.1 i10 rfl (by decide) q1.1 (hts _ mf_X10_44) dX10_wait_38 ?_
      refine lv_bipush (v := 20) hx hb dX10_wait_41 (by decide) ?_
      refine lv_iload_n hx hb dX10_wait_43 rfl (lv_at hl 2 rfl) ?_
      refine lv_imul hx hb dX10_wait_44 ?_
      refine lv_topi (fun x44 ex44 => ?_)
      refine lv_iload_n hx hb dX10_wait_45 rfl (lv_at hl 0 rfl) ?_
      refine lv_iadd hx hb dX10_wait_46 ?_
      refine lv_topi (fun x46 ex46 => ?_)
      refine lv_aload_n hx hb dX10_wait_47 rfl (lv_at hl 1 rfl) ?_
      have q2 := ch10_62 i10
      refine w_gR (C := RX10) (T := TX10) (N := 64) (ci := 10) hx hb hts in10 hown hK hP 62 i10.1 i10 rfl (by decide) q2.1 (hts _ mf_X10_180) dX10_wait_48 ?_
      refine lv_iload_n hx hb dX10_wait_51 rfl (lv_at hl 0 rfl) ?_
      refine w_ia (N := 20) hx hb hK hP q2.2.1.1 (q2.2.1) (q2.2.2) (vp_in_nI (by omega) (by decide)) dX10_wait_52 ?_
      refine lv_topi (fun x52 ex52 => ?_)
      refine w_is (N := 40) hx hb hK hP hS q1.2.1.1 (q1.2.1) (q1.2.2) (by rw [ex46, ex44, hj, show (20 : Int32) = nI 20 from rfl, pk_mul, nI_add]; exact vp_in_nI (by omega) (by decide)) dX10_wait_53 (fun v3 H locs hv3 hP hz hS => ?_)
      obtain ⟨x54, ex54⟩ : ∃ y : Int32, y = (nI i) + 1 := ⟨_, rfl⟩
      refine lv_iinc (v := x54) (lv' := [(2, .int x54), (0, .ref (base + 816)), (1, .int p1)]) hx hb dX10_wait_54 hl (k := 0) rfl (by rw [ex54]; first | rfl | (rw [show Int32.ofInt (-1) = (-1 : Int32) from by decide])) (by decide) rfl (fun ls hl => ?_)
      refine lv_goto (tgt := 29) hx hb dX10_wait_57 (by decide) ?_
      exact ih (i + 1) v3 _ _ _ (by omega) (by omega) (by rw [hv3, up2_o _ _ _ _ _ (by decide)]; exact hq) (by rw [hv3]; exact hF.up _ _ _ (by decide)) (by rw [← nI_1 i, ← ex54]; exact lv_sub hl [0, 1, 2] rfl) hP hS
set_option maxHeartbeats 4000000 in
set_option maxRecDepth 100000 in
/-- wait(end) -/
theorem k_wait (l : Launch) (dC : Nat → ClassId) (dI : Nat → Nat → Nat) (base : Nat) (cy : Nat → ClassId) (v : VV) (p1 : Int32) (j : Nat) (hj : p1 = nI j) (hj2 : j < 2) (q : Nat) (hq : v 816 63 = nI q) (hq2 : q ≤ 20) : CV l yX10_wait (.code yX10_wait cX10_wait 3 none :: TB) { frames := 0, cells := 0, slots := 0, locals := 0 } dC dI base cy [.ref (base + 816), .int p1] v (fun v' : VV => Fr (fun a => 825 ≤ a ∧ a ≤ 829) v v') := by
  refine Met.ofW (cc := cX10_wait) (maxL := 3) (ret := none) (by decide) rfl ?_
  intro p e s m args below meth c s₁ B hml hv
  obtain ⟨rfl, hP, hK⟩ := hv
  have hx := B.exec
  have hb := B.bytes
  have hr := B.returns
  have hts0 := atoms_spec (ws := (.code yX10_wait cX10_wait 3 none :: TB)) B.pre
  have hts : ∀ w ∈ TB, w.before ([.ref (base + 816), .int p1]).toArray s = true := fun w h => hts0 w (List.mem_cons_of_mem _ h)
  have hown : s.vm.findClass RX10 = some m.cls := findClass_of_methodNamed B.named
  have hlocks := B.notSynchronized
  have hS : va_S (fun q => base ≤ q) s.heap s.heap [] := va_S.rf
  have hl := lv_entry ([.ref (base + 816), .int p1]) (n := 3) (Nat.le_of_ble_eq_true rfl)
  rw [lg_entry_eq]
  generalize (lg_sl ([.ref (base + 816), .int p1]) ++ List.replicate (3 - (lg_sl ([.ref (base + 816), .int p1])).length) Slot.unset).toArray = ls at hl ⊢
  have hl : lv_has ls 3 [(0, .ref (base + 816)), (1, .int p1)] := hl
  refine lv_aload_n hx hb dX10_wait_0 rfl (lv_at hl 0 rfl) ?_
  have q1 := ch10_9 i10
  refine w_gR (C := RX10) (T := TX10) (N := 64) (ci := 10) hx hb hts in10 hown hK hP 9 i10.1 i10 rfl (by decide) q1.1 (hts _ mf_X10_35) dX10_wait_1 ?_
  refine lv_iload_n hx hb dX10_wait_4 rfl (lv_at hl 1 rfl) ?_
  refine lv_iconst (v := 1) hx hb dX10_wait_5 (by decide) ?_
  refine w_is (N := 2) hx hb hK hP hS q1.2.1.1 (q1.2.1) (q1.2.2) (by rw [hj]; exact vp_in_nI hj2 (by decide)) dX10_wait_6 (fun v2 H locs hv2 hP hz hS => ?_)
  refine lv_aload_n hx hb dX10_wait_7 rfl (lv_at hl 0 rfl) ?_
  have q3 := ch10_10 i10
  refine w_gR (C := RX10) (T := TX10) (N := 64) (ci := 10) hx hb hts in10 hown hK hP 10 i10.1 i10 rfl (by decide) q3.1 (hts _ mf_X10_38) dX10_wait_8 ?_
  refine lv_iload_n hx hb dX10_wait_11 rfl (lv_at hl 1 rfl) ?_
  refine lv_aload_n hx hb dX10_wait_12 rfl (lv_at hl 0 rfl) ?_
  refine w_gI (C := RX10) (T := TX10) (N := 64) (ci := 10) hx hb hts in10 hown hK hP 0 i10.1 i10 rfl (by decide) (hts _ mf_X10_198) dX10_wait_13 ?_
  refine lv_topi (fun x13 ex13 => ?_)
  refine w_is (N := 2) hx hb hK hP hS q3.2.1.1 (q3.2.1) (q3.2.2) (by rw [hj]; exact vp_in_nI hj2 (by decide)) dX10_wait_16 (fun v4 H locs hv4 hP hz hS => ?_)
  refine lv_aload_n hx hb dX10_wait_17 rfl (lv_at hl 0 rfl) ?_
  have q5 := ch10_13 i10
  refine w_gR (C := RX10) (T := TX10) (N := 64) (ci := 10) hx hb hts in10 hown hK hP 13 i10.1 i10 rfl (by decide) q5.1 (hts _ mf_X10_47) dX10_wait_18 ?_
  refine lv_iload_n hx hb dX10_wait_21 rfl (lv_at hl 1 rfl) ?_
  refine lv_aload_n hx hb dX10_wait_22 rfl (lv_at hl 0 rfl) ?_
  refine w_gI (C := RX10) (T := TX10) (N := 64) (ci := 10) hx hb hts in10 hown hK hP 63 i10.1 i10 rfl (by decide) (hts _ mf_X10_183) dX10_wait_23 ?_
  refine lv_topi (fun x23 ex23 => ?_)
  refine w_is (N := 2) hx hb hK hP hS q5.2.1.1 (q5.2.1) (q5.2.2) (by rw [hj]; exact vp_in_nI hj2 (by decide)) dX10_wait_26 (fun v6 H locs hv6 hP hz hS => ?_)
  refine lv_iconst (v := 0) hx hb dX10_wait_27 (by decide) ?_
  refine lv_istore_n (lv' := [(2, .int 0), (0, .ref (base + 816)), (1, .int p1)]) hx hb dX10_wait_28 rfl hl (by decide) rfl (fun ls hl => ?_)
  refine lpk_wait hx hb hml hown hts hK ⟨Nat.zero_le _, Nat.zero_le _⟩ hj hj2 hq2 (fun w H locs ls hF hl hP hS => ?_) (q + 1) 0 v6 _ _ _ (by omega) (by omega) (by subst hv6 hv4 hv2; rw [up2_o _ _ _ _ _ (by decide), up2_o _ _ _ _ _ (by decide), up2_o _ _ _ _ _ (by decide)]; exact hq) Fr.rf (lv_sub hl [0, 1, 2] rfl) hP hS
  exact W.vret hx hb hr (fun t ht hW => ⟨⟨w, rfl, by
      refine Fr.tr ?_ (hF.w (fun a h => by omega))
      subst hv6 hv4 hv2
      repeat (first | exact Fr.rf | refine Fr.up ?_ _ _ _ (by omega)), by rw [ht]; exact hP, va_K.moved hW.alike hK⟩, hS.F ht⟩) hS.2.2 dX10_wait_60
