/-- nothing changed but in the cells of P -/
def Fr (P : Nat → Prop) (v v' : VV) : Prop := ∀ a, ¬ P a → v' a = v a
theorem Fr.rf {P : Nat → Prop} {v : VV} : Fr P v v := fun _ _ => rfl
theorem Fr.up {P : Nat → Prop} {v v' : VV} (h : Fr P v v') (o k : Nat) (x : Int32) (ho : P o) : Fr P v (up2 v' o k x) := fun a ha => (up2_of v' o k x (fun e => ha (by rw [e]; exact ho))).trans (h a ha)
theorem Fr.tr {P : Nat → Prop} {v v' v'' : VV} (h : Fr P v v') (h' : Fr P v' v'') : Fr P v v'' := fun a ha => (h' a ha).trans (h a ha)
theorem Fr.w {P Q : Nat → Prop} {v v' : VV} (h : Fr P v v') (hq : ∀ a, P a → Q a) : Fr Q v v' := fun a ha => h a (fun e => ha (hq a e))
theorem nI_lit_le {a n : Nat} {x : Int32} (e : x = nI n) (h : x ≤ nI a) (ha : a < 2 ^ 31) (hn : n < 2 ^ 31) : n ≤ a := by
  rw [e] at h
  exact (nI_leI hn ha).mp h
theorem nI_nlit_le {a n : Nat} {x : Int32} (e : x = nI n) (h : ¬ x ≤ nI a) (ha : a < 2 ^ 31) (hn : n < 2 ^ 31) : a < n := by
  rw [e] at h
  exact Nat.lt_of_not_le (fun q => h (nI_le q ha))
set_option maxHeartbeats 4000000 in
set_option maxRecDepth 100000 in
/-- Unit.writeHead(code, to, marks) -/
theorem c5_writeHead (l : Launch) (dC : Nat → ClassId) (dI : Nat → Nat → Nat) (base : Nat) (cy : Nat → ClassId) (o : Nat) (ho : isO 5 o) (v : VV) (p1 p2 p3 : Int32) (mk : Nat) (hm : p3 = nI mk) (hm2 : mk ≤ 13) : CV l yX5_writeHead (.code yX5_writeHead cX5_writeHead 4 none :: TB) { frames := 0, cells := 0, slots := 0, locals := 0 } dC dI base cy [.ref (base + o), .int p1, .int p2, .int p3] v (fun v' : VV => Fr (fun a => a = o ∨ a = o + 1) v v' ∧ v' o 1 = p3 + 4) := by
  refine Met.ofW (cc := cX5_writeHead) (maxL := 4) (ret := none) (by decide) rfl ?_
  intro p e s m args below meth c s₁ B hml hv
  obtain ⟨rfl, hP, hK⟩ := hv
  have hx := B.exec
  have hb := B.bytes
  have hr := B.returns
  have hts0 := atoms_spec (ws := (.code yX5_writeHead cX5_writeHead 4 none :: TB)) B.pre
  have hts : ∀ w ∈ TB, w.before ([.ref (base + o), .int p1, .int p2, .int p3]).toArray s = true := fun w h => hts0 w (List.mem_cons_of_mem _ h)
  have hown : s.vm.findClass RX5 = some m.cls := findClass_of_methodNamed B.named
  have hlocks := B.notSynchronized
  have hS : va_S (fun q => base ≤ q) s.heap s.heap [] := va_S.rf
  have hl := lv_entry ([.ref (base + o), .int p1, .int p2, .int p3]) (n := 4) (Nat.le_of_ble_eq_true rfl)
  rw [lg_entry_eq]
  generalize (lg_sl ([.ref (base + o), .int p1, .int p2, .int p3]) ++ List.replicate (4 - (lg_sl ([.ref (base + o), .int p1, .int p2, .int p3])).length) Slot.unset).toArray = ls at hl ⊢
  have hl : lv_has ls 4 [(0, .ref (base + o)), (1, .int p1), (2, .int p2), (3, .int p3)] := hl
  refine lv_aload_n hx hb dX5_writeHead_0 rfl (lv_at hl 0 rfl) ?_
  have q1 := ch5_0 ho
  refine w_gR (C := RX5) (T := TX5) (N := 7) (ci := 5) hx hb hts in5 hown hK hP 0 ho.1 ho rfl (by decide) q1.1 (hts _ mf_X5_9) dX5_writeHead_1 ?_
  refine lv_iconst (v := 0) hx hb dX5_writeHead_4 (by decide) ?_
  refine lv_iload_n hx hb dX5_writeHead_5 rfl (lv_at hl 3 rfl) ?_
  refine lv_iconst (v := 3) hx hb dX5_writeHead_6 (by decide) ?_
  refine lv_iadd hx hb dX5_writeHead_7 ?_
  refine lv_topi (fun x7 ex7 => ?_)
  refine w_is (N := 17) hx hb hK hP hS q1.2.1.1 (q1.2.1) (q1.2.2) (vp_in_nI (n := 0) (by decide) (by decide)) dX5_writeHead_8 (fun v2 H locs hv2 hP hz hS => ?_)
  refine lv_aload_n hx hb dX5_writeHead_9 rfl (lv_at hl 0 rfl) ?_
  have q3 := ch5_0 ho
  refine w_gR (C := RX5) (T := TX5) (N := 7) (ci := 5) hx hb hts in5 hown hK hP 0 ho.1 ho rfl (by decide) q3.1 (hts _ mf_X5_9) dX5_writeHead_10 ?_
  refine lv_iconst (v := 1) hx hb dX5_writeHead_13 (by decide) ?_
  refine lv_iload_n hx hb dX5_writeHead_14 rfl (lv_at hl 1 rfl) ?_
  refine w_is (N := 17) hx hb hK hP hS q3.2.1.1 (q3.2.1) (q3.2.2) (vp_in_nI (n := 1) (by decide) (by decide)) dX5_writeHead_15 (fun v4 H locs hv4 hP hz hS => ?_)
  refine lv_aload_n hx hb dX5_writeHead_16 rfl (lv_at hl 0 rfl) ?_
  have q5 := ch5_0 ho
  refine w_gR (C := RX5) (T := TX5) (N := 7) (ci := 5) hx hb hts in5 hown hK hP 0 ho.1 ho rfl (by decide) q5.1 (hts _ mf_X5_9) dX5_writeHead_17 ?_
  refine lv_iconst (v := 2) hx hb dX5_writeHead_20 (by decide) ?_
  refine lv_iload_n hx hb dX5_writeHead_21 rfl (lv_at hl 2 rfl) ?_
  refine lv_bipush (v := 8) hx hb dX5_writeHead_22 (by decide) ?_
  refine lv_ishr hx hb dX5_writeHead_24 ?_
  refine lv_topi (fun x24 ex24 => ?_)
  refine w_is (N := 17) hx hb hK hP hS q5.2.1.1 (q5.2.1) (q5.2.2) (vp_in_nI (n := 2) (by decide) (by decide)) dX5_writeHead_25 (fun v6 H locs hv6 hP hz hS => ?_)
  refine lv_aload_n hx hb dX5_writeHead_26 rfl (lv_at hl 0 rfl) ?_
  have q7 := ch5_0 ho
  refine w_gR (C := RX5) (T := TX5) (N := 7) (ci := 5) hx hb hts in5 hown hK hP 0 ho.1 ho rfl (by decide) q7.1 (hts _ mf_X5_9) dX5_writeHead_27 ?_
  refine lv_iconst (v := 3) hx hb dX5_writeHead_30 (by decide) ?_
  refine lv_iload_n hx hb dX5_writeHead_31 rfl (lv_at hl 2 rfl) ?_
  refine lv_sipush (v := 255) hx hb dX5_writeHead_32 (by decide) ?_
  refine lv_iand hx hb dX5_writeHead_35 ?_
  refine lv_topi (fun x35 ex35 => ?_)
  refine w_is (N := 17) hx hb hK hP hS q7.2.1.1 (q7.2.1) (q7.2.2) (vp_in_nI (n := 3) (by decide) (by decide)) dX5_writeHead_36 (fun v8 H locs hv8 hP hz hS => ?_)
  refine lv_aload_n hx hb dX5_writeHead_37 rfl (lv_at hl 0 rfl) ?_
  have q9 := ch5_0 ho
  refine w_gR (C := RX5) (T := TX5) (N := 7) (ci := 5) hx hb hts in5 hown hK hP 0 ho.1 ho rfl (by decide) q9.1 (hts _ mf_X5_9) dX5_writeHead_38 ?_
  refine lv_iload_n hx hb dX5_writeHead_41 rfl (lv_at hl 3 rfl) ?_
  refine lv_sipush (v := 195) hx hb dX5_writeHead_42 (by decide) ?_
  refine w_is (N := 17) hx hb hK hP hS q9.2.1.1 (q9.2.1) (q9.2.2) (by rw [hm]; exact vp_in_nI (by omega) (by decide)) dX5_writeHead_45 (fun v10 H locs hv10 hP hz hS => ?_)
  refine lv_aload_n hx hb dX5_writeHead_46 rfl (lv_at hl 0 rfl) ?_
  have q11 := ch5_0 ho
  refine w_gR (C := RX5) (T := TX5) (N := 7) (ci := 5) hx hb hts in5 hown hK hP 0 ho.1 ho rfl (by decide) q11.1 (hts _ mf_X5_9) dX5_writeHead_47 ?_
  refine lv_iload_n hx hb dX5_writeHead_50 rfl (lv_at hl 3 rfl) ?_
  refine lv_iconst (v := 1) hx hb dX5_writeHead_51 (by decide) ?_
  refine lv_iadd hx hb dX5_writeHead_52 ?_
  refine lv_topi (fun x52 ex52 => ?_)
  refine lv_iconst (v := 2) hx hb dX5_writeHead_53 (by decide) ?_
  refine w_is (N := 17) hx hb hK hP hS q11.2.1.1 (q11.2.1) (q11.2.2) (by rw [ex52, hm, show (1 : Int32) = nI 1 from rfl, nI_add]; exact vp_in_nI (by omega) (by decide)) dX5_writeHead_54 (fun v12 H locs hv12 hP hz hS => ?_)
  refine lv_aload_n hx hb dX5_writeHead_55 rfl (lv_at hl 0 rfl) ?_
  have q13 := ch5_0 ho
  refine w_gR (C := RX5) (T := TX5) (N := 7) (ci := 5) hx hb hts in5 hown hK hP 0 ho.1 ho rfl (by decide) q13.1 (hts _ mf_X5_9) dX5_writeHead_56 ?_
  refine lv_iload_n hx hb dX5_writeHead_59 rfl (lv_at hl 3 rfl) ?_
  refine lv_iconst (v := 2) hx hb dX5_writeHead_60 (by decide) ?_
  refine lv_iadd hx hb dX5_writeHead_61 ?_
  refine lv_topi (fun x61 ex61 => ?_)
  refine lv_iconst (v := 0) hx hb dX5_writeHead_62 (by decide) ?_
  refine w_is (N := 17) hx hb hK hP hS q13.2.1.1 (q13.2.1) (q13.2.2) (by rw [ex61, hm, show (2 : Int32) = nI 2 from rfl, nI_add]; exact vp_in_nI (by omega) (by decide)) dX5_writeHead_63 (fun v14 H locs hv14 hP hz hS => ?_)
  refine lv_aload_n hx hb dX5_writeHead_64 rfl (lv_at hl 0 rfl) ?_
  have q15 := ch5_0 ho
  refine w_gR (C := RX5) (T := TX5) (N := 7) (ci := 5) hx hb hts in5 hown hK hP 0 ho.1 ho rfl (by decide) q15.1 (hts _ mf_X5_9) dX5_writeHead_65 ?_
  refine lv_iload_n hx hb dX5_writeHead_68 rfl (lv_at hl 3 rfl) ?_
  refine lv_iconst (v := 3) hx hb dX5_writeHead_69 (by decide) ?_
  refine lv_iadd hx hb dX5_writeHead_70 ?_
  refine lv_topi (fun x70 ex70 => ?_)
  refine lv_iconst (v := 0) hx hb dX5_writeHead_71 (by decide) ?_
  refine w_is (N := 17) hx hb hK hP hS q15.2.1.1 (q15.2.1) (q15.2.2) (by rw [ex70, hm, show (3 : Int32) = nI 3 from rfl, nI_add]; exact vp_in_nI (by omega) (by decide)) dX5_writeHead_72 (fun v16 H locs hv16 hP hz hS => ?_)
  refine lv_aload_n hx hb dX5_writeHead_73 rfl (lv_at hl 0 rfl) ?_
  refine lv_iload_n hx hb dX5_writeHead_74 rfl (lv_at hl 3 rfl) ?_
  refine lv_iconst (v := 4) hx hb dX5_writeHead_75 (by decide) ?_
  refine lv_iadd hx hb dX5_writeHead_76 ?_
  refine lv_topi (fun x76 ex76 => ?_)
  refine w_pI (C := RX5) (T := TX5) (N := 7) (ci := 5) hx hb hts in5 tyX5 tyX5_ok nmX5 hown hK hP hS 1 ho.1 ho rfl (by decide) (hts _ mf_X5_19) rfl (ty := .int) (by decide +kernel) rfl rfl dX5_writeHead_77 (fun v17 H locs hv17 hP hz hS => ?_)
  exact W.vret hx hb hr (fun t ht hW => ⟨⟨v17, rfl, by
      subst hv17 hv16 hv14 hv12 hv10 hv8 hv6 hv4 hv2
      refine ⟨?_, ?_⟩
      · repeat (first | exact Fr.rf | refine Fr.up ?_ _ _ _ (by simp))
      · rw [up2_s, ex76], by rw [ht]; exact hP, va_K.moved hW.alike hK⟩, hS.F ht⟩) hS.2.2 dX5_writeHead_80
set_option maxHeartbeats 4000000 in
set_option maxRecDepth 100000 in
/-- Unit.writeLink(code, to, from, tail) -/
theorem c5_writeLink (l : Launch) (dC : Nat → ClassId) (dI : Nat → Nat → Nat) (base : Nat) (cy : Nat → ClassId) (o : Nat) (ho : isO 5 o) (v : VV) (p1 p2 p3 p4 : Int32) : CV l yX5_writeLink (.code yX5_writeLink cX5_writeLink 5 none :: TB) { frames := 1, cells := 0, slots := 0, locals := 23 } dC dI base cy [.ref (base + o), .int p1, .int p2, .int p3, .int p4] v (fun v' : VV => Fr (fun a => a = o ∨ a = o + 1) v v' ∧ (v' o 1 = 10 ∨ v' o 1 = 11)) := by
  refine Met.ofW (cc := cX5_writeLink) (maxL := 5) (ret := none) (by decide) rfl ?_
  intro p e s m args below meth c s₁ B hml hv
  obtain ⟨rfl, hP, hK⟩ := hv
  have hx := B.exec
  have hb := B.bytes
  have hr := B.returns
  have hts0 := atoms_spec (ws := (.code yX5_writeLink cX5_writeLink 5 none :: TB)) B.pre
  have hts : ∀ w ∈ TB, w.before ([.ref (base + o), .int p1, .int p2, .int p3, .int p4]).toArray s = true := fun w h => hts0 w (List.mem_cons_of_mem _ h)
  have hown : s.vm.findClass RX5 = some m.cls := findClass_of_methodNamed B.named
  have hlocks := B.notSynchronized
  have hS : va_S (fun q => base ≤ q) s.heap s.heap [] := va_S.rf
  have hl := lv_entry ([.ref (base + o), .int p1, .int p2, .int p3, .int p4]) (n := 5) (Nat.le_of_ble_eq_true rfl)
  rw [lg_entry_eq]
  generalize (lg_sl ([.ref (base + o), .int p1, .int p2, .int p3, .int p4]) ++ List.replicate (5 - (lg_sl ([.ref (base + o), .int p1, .int p2, .int p3, .int p4])).length) Slot.unset).toArray = ls at hl ⊢
  have hl : lv_has ls 5 [(0, .ref (base + o)), (1, .int p1), (2, .int p2), (3, .int p3), (4, .int p4)] := hl
  refine lv_aload_n hx hb dX5_writeLink_0 rfl (lv_at hl 0 rfl) ?_
  have q1 := ch5_0 ho
  refine w_gR (C := RX5) (T := TX5) (N := 7) (ci := 5) hx hb hts in5 hown hK hP 0 ho.1 ho rfl (by decide) q1.1 (hts _ mf_X5_9) dX5_writeLink_1 ?_
  refine lv_iconst (v := 4) hx hb dX5_writeLink_4 (by decide) ?_
  refine lv_iload_n hx hb dX5_writeLink_5 rfl (lv_at hl 3 rfl) ?_
  refine lv_bipush (v := 8) hx hb dX5_writeLink_6 (by decide) ?_
  refine lv_ishr hx hb dX5_writeLink_8 ?_
  refine lv_topi (fun x8 ex8 => ?_)
  refine w_is (N := 17) hx hb hK hP hS q1.2.1.1 (q1.2.1) (q1.2.2) (vp_in_nI (n := 4) (by decide) (by decide)) dX5_writeLink_9 (fun v2 H locs hv2 hP hz hS => ?_)
  refine lv_aload_n hx hb dX5_writeLink_10 rfl (lv_at hl 0 rfl) ?_
  have q3 := ch5_0 ho
  refine w_gR (C := RX5) (T := TX5) (N := 7) (ci := 5) hx hb hts in5 hown hK hP 0 ho.1 ho rfl (by decide) q3.1 (hts _ mf_X5_9) dX5_writeLink_11 ?_
  refine lv_iconst (v := 5) hx hb dX5_writeLink_14 (by decide) ?_
  refine lv_iload_n hx hb dX5_writeLink_15 rfl (lv_at hl 3 rfl) ?_
  refine lv_sipush (v := 255) hx hb dX5_writeLink_16 (by decide) ?_
  refine lv_iand hx hb dX5_writeLink_19 ?_
  refine lv_topi (fun x19 ex19 => ?_)
  refine w_is (N := 17) hx hb hK hP hS q3.2.1.1 (q3.2.1) (q3.2.2) (vp_in_nI (n := 5) (by decide) (by decide)) dX5_writeLink_20 (fun v4 H locs hv4 hP hz hS => ?_)
  refine lv_iload_n hx hb dX5_writeLink_21 rfl (lv_at hl 1 rfl) ?_
  refine lv_sipush (v := 192) hx hb dX5_writeLink_22 (by decide) ?_
  refine lv_icmp_ne (tgt := 39) hx hb dX5_writeLink_25 (by decide) (fun c25 => ?_) (fun c25 => ?_)
  · refine lv_aload_n hx hb dX5_writeLink_39 rfl (lv_at hl 0 rfl) ?_
    have q5 := ch5_0 ho
    refine w_gR (C := RX5) (T := TX5) (N := 7) (ci := 5) hx hb hts in5 hown hK hP 0 ho.1 ho rfl (by decide) q5.1 (hts _ mf_X5_9) dX5_writeLink_40 ?_
    refine lv_bipush (v := 6) hx hb dX5_writeLink_43 (by decide) ?_
    refine lv_iload hx hb dX5_writeLink_45 (lv_at hl 4 rfl) ?_
    refine w_is (N := 17) hx hb hK hP hS q5.2.1.1 (q5.2.1) (q5.2.2) (vp_in_nI (n := 6) (by decide) (by decide)) dX5_writeLink_47 (fun v6 H locs hv6 hP hz hS => ?_)
    refine lv_aload_n hx hb dX5_writeLink_48 rfl (lv_at hl 0 rfl) ?_
    refine lv_iload_n hx hb dX5_writeLink_49 rfl (lv_at hl 1 rfl) ?_
    refine lv_iload_n hx hb dX5_writeLink_50 rfl (lv_at hl 2 rfl) ?_
    refine lv_bipush (v := 7) hx hb dX5_writeLink_51 (by decide) ?_
    refine k_V (As := [.int p1, .int p2, .int 7]) (rest := []) ⟨hx, hb, hml, hown, hts⟩ (c5_writeHead l dC dI base cy o ho v6 p1 p2 7 7 rfl (by decide)) (cwV 3 hts (gV ml_X5_15 mi_X5_writeHead mx_X5_writeHead mn_X5 mo_X5_writeHead) rfl rfl rfl (by decide +kernel) ⟨by decide, by decide⟩) hK hP hS ho (by decide) rfl rfl hl.1 rfl (Nat.le_of_ble_eq_true rfl) dX5_writeLink_53 ⟨Nat.zero_le _, Nat.zero_le _⟩ (fun v7 H locs hv7 hP hS => ?_)
    exact W.vret hx hb hr (fun t ht hW => ⟨⟨v7, rfl, by
        exact ⟨Fr.tr (by subst hv6 hv4 hv2; repeat (first | exact Fr.rf | refine Fr.up ?_ _ _ _ (by simp))) (hv7).1, by first | exact Or.inl (hv7).2 | exact Or.inr (hv7).2⟩, by rw [ht]; exact hP, va_K.moved hW.alike hK⟩, hS.F ht⟩) hS.2.2 dX5_writeLink_56
  · refine lv_aload_n hx hb dX5_writeLink_28 rfl (lv_at hl 0 rfl) ?_
    refine lv_iload_n hx hb dX5_writeLink_29 rfl (lv_at hl 1 rfl) ?_
    refine lv_iload_n hx hb dX5_writeLink_30 rfl (lv_at hl 2 rfl) ?_
    refine lv_bipush (v := 6) hx hb dX5_writeLink_31 (by decide) ?_
    refine k_V (As := [.int p1, .int p2, .int 6]) (rest := []) ⟨hx, hb, hml, hown, hts⟩ (c5_writeHead l dC dI base cy o ho v4 p1 p2 6 6 rfl (by decide)) (cwV 3 hts (gV ml_X5_15 mi_X5_writeHead mx_X5_writeHead mn_X5 mo_X5_writeHead) rfl rfl rfl (by decide +kernel) ⟨by decide, by decide⟩) hK hP hS ho (by decide) rfl rfl hl.1 rfl (Nat.le_of_ble_eq_true rfl) dX5_writeLink_33 ⟨Nat.zero_le _, Nat.zero_le _⟩ (fun v8 H locs hv8 hP hS => ?_)
    refine lv_goto (tgt := 56) hx hb dX5_writeLink_36 (by decide) ?_
    exact W.vret hx hb hr (fun t ht hW => ⟨⟨v8, rfl, by
        exact ⟨Fr.tr (by subst hv4 hv2; repeat (first | exact Fr.rf | refine Fr.up ?_ _ _ _ (by simp))) (hv8).1, by first | exact Or.inl (hv8).2 | exact Or.inr (hv8).2⟩, by rw [ht]; exact hP, va_K.moved hW.alike hK⟩, hS.F ht⟩) hS.2.2 dX5_writeLink_56
set_option maxHeartbeats 4000000 in
set_option maxRecDepth 100000 in
/-- the loop of Unit.plainSum -/
theorem lp5_plainSum {p : Program} {l : Launch} {e : Env} {R : Room} {s : State} {m : MethodId} {args : Array Value} {below : List Frame} {meth : Method} {c : Code} {cells slots : Nat} {Q : State → Prop} {dC : Nat → ClassId} {dI : Nat → Nat → Nat} {base : Nat} {cy : Nat → ClassId} {H0 : Heap} (hx : p.tables.exec = Jvm.exec) (hb : c.code = cX5_plainSum) (hml : c.maxLocals = 3) (hown : s.vm.findClass RX5 = some m.cls) (hts : ∀ w ∈ TB, w.before args s = true) (hK : va_K (dC, dI) vwCl (tyL cy) s) (hcs : cells ≤ R.cells ∧ slots ≤ R.slots) {o : Nat} (ho : isO 5 o) {v : VV} {L : Nat} (hL : v o 1 = nI L) (hL2 : L ≤ 17) (hex : ∀ (x : Int32) (H : Heap) (locs : List Loc) (ls : Array Slot), lv_has ls 3 [(1, .int x), (0, .ref (base + o))] → va_P (dC, dI) vwCl (Wd base cy rf v 874) H → va_S (fun q => base ≤ q) H0 H locs → W p l e R s m args below meth c H locs cells slots Q (F0 m 27 ls [])) : ∀ (k : Nat) (i : Nat) (x : Int32) (H : Heap) (locs : List Loc) (ls : Array Slot), i ≤ L → L + 1 ≤ i + k → lv_has ls 3 [(2, .int (nI i)), (1, .int x), (0, .ref (base + o))] → va_P (dC, dI) vwCl (Wd base cy rf v 874) H → va_S (fun q => base ≤ q) H0 H locs → W p l e R s m args below meth c H locs cells slots Q (F0 m 4 ls []) := by
  intro k
  induction k with
  | zero =>
    intro i x H locs ls hi hk hl hP hS
    omega
  | succ k ih =>
    intro i x H locs ls hi hk hl hP hS
    refine lv_iload_n hx hb dX5_plainSum_4 rfl (lv_at hl 0 rfl) ?_
    refine lv_aload_n hx hb dX5_plainSum_5 rfl (lv_at hl 2 rfl) ?_
    refine w_gI (C := RX5) (T := TX5) (N := 7) (ci := 5) hx hb hts in5 hown hK hP 1 ho.1 ho rfl (by decide) (hts _ mf_X5_19) dX5_plainSum_6 ?_
    refine lv_topi (fun x6 ex6 => ?_)
    refine lv_icmp_ge (tgt := 27) hx hb dX5_plainSum_9 (by decide) (fun c9 => ?_) (fun c9 => ?_)
    · exact hex _ _ _ _ (lv_sub hl [1, 2] rfl) hP hS
    · have hi3 : i < L := nI_nlit_le (ex6.trans hL) c9 (by omega) (by omega)
      have hi2 : i < 17 := by omega
      refine lv_iload_n hx hb dX5_plainSum_12 rfl (lv_at hl 1 rfl) ?_
      refine lv_aload_n hx hb dX5_plainSum_13 rfl (lv_at hl 2 rfl) ?_
      have q1 := ch5_0 ho
      refine w_gR (C := RX5) (T := TX5) (N := 7) (ci := 5) hx hb hts in5 hown hK hP 0 ho.1 ho rfl (by decide) q1.1 (hts _ mf_X5_9) dX5_plainSum_14 ?_
      refine lv_iload_n hx hb dX5_plainSum_17 rfl (lv_at hl 0 rfl) ?_
      refine w_ia (N := 17) hx hb hK hP q1.2.1.1 (q1.2.1) (q1.2.2) (vp_in_nI hi2 (by decide)) dX5_plainSum_18 ?_
      refine lv_topi (fun x18 ex18 => ?_)
      refine lv_iadd hx hb dX5_plainSum_19 ?_
      refine lv_topi (fun x19 ex19 => ?_)
      refine lv_istore_n (lv' := [(1, .int x19), (2, .int (nI i)), (0, .ref (base + o))]) hx hb dX5_plainSum_20 rfl hl (by decide) rfl (fun ls hl => ?_)
      obtain ⟨x21, ex21⟩ : ∃ y : Int32, y = (nI i) + 1 := ⟨_, rfl⟩
      refine lv_iinc (v := x21) (lv' := [(2, .int x21), (1, .int x19), (0, .ref (base + o))]) hx hb dX5_plainSum_21 hl (k := 1) rfl (by rw [ex21]; first | rfl | (rw [show Int32.ofInt (-1) = (-1 : Int32) from by decide])) (by decide) rfl (fun ls hl => ?_)
      refine lv_goto (tgt := 4) hx hb dX5_plainSum_24 (by decide) ?_
      exact ih (i + 1) x19 _ _ _ (by omega) (by omega) (by rw [← nI_1 i, ← ex21]; exact lv_sub hl [0, 1, 2] rfl) hP hS
set_option maxHeartbeats 4000000 in
set_option maxRecDepth 100000 in
/-- Unit.plainSum(): reads alone -/
theorem c5_plainSum (l : Launch) (dC : Nat → ClassId) (dI : Nat → Nat → Nat) (base : Nat) (cy : Nat → ClassId) (o : Nat) (ho : isO 5 o) (v : VV) (L : Nat) (hL : v o 1 = nI L) (hL2 : L ≤ 17) : CI l yX5_plainSum (.code yX5_plainSum cX5_plainSum 3 (some .int) :: TB) { frames := 0, cells := 0, slots := 0, locals := 0 } dC dI base cy [.ref (base + o)] v (fun (_ : Int32) (v' : VV) => v' = v) := by
  refine Met.ofW (cc := cX5_plainSum) (maxL := 3) (ret := (some .int)) (by decide) rfl ?_
  intro p e s m args below meth c s₁ B hml hv
  obtain ⟨rfl, hP, hK⟩ := hv
  have hx := B.exec
  have hb := B.bytes
  have hr := B.returns
  have hts0 := atoms_spec (ws := (.code yX5_plainSum cX5_plainSum 3 (some .int) :: TB)) B.pre
  have hts : ∀ w ∈ TB, w.before ([.ref (base + o)]).toArray s = true := fun w h => hts0 w (List.mem_cons_of_mem _ h)
  have hown : s.vm.findClass RX5 = some m.cls := findClass_of_methodNamed B.named
  have hlocks := B.notSynchronized
  have hS : va_S (fun q => base ≤ q) s.heap s.heap [] := va_S.rf
  have hl := lv_entry ([.ref (base + o)]) (n := 3) (Nat.le_of_ble_eq_true rfl)
  rw [lg_entry_eq]
  generalize (lg_sl ([.ref (base + o)]) ++ List.replicate (3 - (lg_sl ([.ref (base + o)])).length) Slot.unset).toArray = ls at hl ⊢
  have hl : lv_has ls 3 [(0, .ref (base + o))] := hl
  refine lv_iconst (v := 0) hx hb dX5_plainSum_0 (by decide) ?_
  refine lv_istore_n (lv' := [(1, .int 0), (0, .ref (base + o))]) hx hb dX5_plainSum_1 rfl hl (by decide) rfl (fun ls hl => ?_)
  refine lv_iconst (v := 0) hx hb dX5_plainSum_2 (by decide) ?_
  refine lv_istore_n (lv' := [(2, .int 0), (1, .int 0), (0, .ref (base + o))]) hx hb dX5_plainSum_3 rfl hl (by decide) rfl (fun ls hl => ?_)
  refine lp5_plainSum hx hb hml hown hts hK ⟨Nat.zero_le _, Nat.zero_le _⟩ ho hL hL2 (fun x H locs ls hl hP hS => ?_) (L + 1) 0 0 _ _ _ (by omega) (by omega) (lv_sub hl [0, 1, 2] rfl) hP hS
  refine lv_iload_n hx hb dX5_plainSum_27 rfl (lv_at hl 0 rfl) ?_
  exact W.iret (v := x) hx hb hr (fun t ht hW => ⟨⟨x, v, rfl, rfl, by rw [ht]; exact hP, va_K.moved hW.alike hK⟩, hS.F ht⟩) hS.2.2 dX5_plainSum_28
set_option maxHeartbeats 4000000 in
set_option maxRecDepth 100000 in
/-- the loop of Unit.weightedSum -/
theorem lp5_weightedSum {p : Program} {l : Launch} {e : Env} {R : Room} {s : State} {m : MethodId} {args : Array Value} {below : List Frame} {meth : Method} {c : Code} {cells slots : Nat} {Q : State → Prop} {dC : Nat → ClassId} {dI : Nat → Nat → Nat} {base : Nat} {cy : Nat → ClassId} {H0 : Heap} (hx : p.tables.exec = Jvm.exec) (hb : c.code = cX5_weightedSum) (hml : c.maxLocals = 3) (hown : s.vm.findClass RX5 = some m.cls) (hts : ∀ w ∈ TB, w.before args s = true) (hK : va_K (dC, dI) vwCl (tyL cy) s) (hcs : cells ≤ R.cells ∧ slots ≤ R.slots) {o : Nat} (ho : isO 5 o) {v : VV} {L : Nat} (hL : v o 1 = nI L) (hL2 : L ≤ 17) (hex : ∀ (x : Int32) (H : Heap) (locs : List Loc) (ls : Array Slot), lv_has ls 3 [(1, .int x), (0, .ref (base + o))] → va_P (dC, dI) vwCl (Wd base cy rf v 874) H → va_S (fun q => base ≤ q) H0 H locs → W p l e R s m args below meth c H locs cells slots Q (F0 m 34 ls [])) : ∀ (k : Nat) (i : Nat) (x : Int32) (H : Heap) (locs : List Loc) (ls : Array Slot), i ≤ L → L + 1 ≤ i + k → lv_has ls 3 [(2, .int (nI i)), (1, .int x), (0, .ref (base + o))] → va_P (dC, dI) vwCl (Wd base cy rf v 874) H → va_S (fun q => base ≤ q) H0 H locs → W p l e R s m args below meth c H locs cells slots Q (F0 m 4 ls []) := by
  intro k
  induction k with
  | zero =>
    intro i x H locs ls hi hk hl hP hS
    omega
  | succ k ih =>
    intro i x H locs ls hi hk hl hP hS
    refine lv_iload_n hx hb dX5_weightedSum_4 rfl (lv_at hl 0 rfl) ?_
    refine lv_aload_n hx hb dX5_weightedSum_5 rfl (lv_at hl 2 rfl) ?_
    refine w_gI (C := RX5) (T := TX5) (N := 7) (ci := 5) hx hb hts in5 hown hK hP 1 ho.1 ho rfl (by decide) (hts _ mf_X5_19) dX5_weightedSum_6 ?_
    refine lv_topi (fun x6 ex6 => ?_)
    refine lv_icmp_ge (tgt := 34) hx hb dX5_weightedSum_9 (by decide) (fun c9 => ?_) (fun c9 => ?_)
    · exact hex _ _ _ _ (lv_sub hl [1, 2] rfl) hP hS
    · have hi3 : i < L := nI_nlit_le (ex6.trans hL) c9 (by omega) (by omega)
      have hi2 : i < 17 := by omega
      refine lv_iload_n hx hb dX5_weightedSum_12 rfl (lv_at hl 1 rfl) ?_
      refine lv_aload_n hx hb dX5_weightedSum_13 rfl (lv_at hl 2 rfl) ?_
      refine w_gI (C := RX5) (T := TX5) (N := 7) (ci := 5) hx hb hts in5 hown hK hP 1 ho.1 ho rfl (by decide) (hts _ mf_X5_19) dX5_weightedSum_14 ?_
      refine lv_topi (fun x14 ex14 => ?_)
      refine lv_iload_n hx hb dX5_weightedSum_17 rfl (lv_at hl 0 rfl) ?_
      refine lv_isub hx hb dX5_weightedSum_18 ?_
      refine lv_topi (fun x18 ex18 => ?_)
      refine lv_aload_n hx hb dX5_weightedSum_19 rfl (lv_at hl 2 rfl) ?_
      have q1 := ch5_0 ho
      refine w_gR (C := RX5) (T := TX5) (N := 7) (ci := 5) hx hb hts in5 hown hK hP 0 ho.1 ho rfl (by decide) q1.1 (hts _ mf_X5_9) dX5_weightedSum_20 ?_
      refine lv_iload_n hx hb dX5_weightedSum_23 rfl (lv_at hl 0 rfl) ?_
      refine w_ia (N := 17) hx hb hK hP q1.2.1.1 (q1.2.1) (q1.2.2) (vp_in_nI hi2 (by decide)) dX5_weightedSum_24 ?_
      refine lv_topi (fun x24 ex24 => ?_)
      refine lv_imul hx hb dX5_weightedSum_25 ?_
      refine lv_topi (fun x25 ex25 => ?_)
      refine lv_iadd hx hb dX5_weightedSum_26 ?_
      refine lv_topi (fun x26 ex26 => ?_)
      refine lv_istore_n (lv' := [(1, .int x26), (2, .int (nI i)), (0, .ref (base + o))]) hx hb dX5_weightedSum_27 rfl hl (by decide) rfl (fun ls hl => ?_)
      obtain ⟨x28, ex28⟩ : ∃ y : Int32, y = (nI i) + 1 := ⟨_, rfl⟩
      refine lv_iinc (v := x28) (lv' := [(2, .int x28), (1, .int x26), (0, .ref (base + o))]) hx hb dX5_weightedSum_28 hl (k := 1) rfl (by rw [ex28]; first | rfl | (rw [show Int32.ofInt (-1) = (-1 : Int32) from by decide])) (by decide) rfl (fun ls hl => ?_)
      refine lv_goto (tgt := 4) hx hb dX5_weightedSum_31 (by decide) ?_
      exact ih (i + 1) x26 _ _ _ (by omega) (by omega) (by rw [← nI_1 i, ← ex28]; exact lv_sub hl [0, 1, 2] rfl) hP hS
set_option maxHeartbeats 4000000 in
set_option maxRecDepth 100000 in
/-- Unit.weightedSum(): reads alone -/
theorem c5_weightedSum (l : Launch) (dC : Nat → ClassId) (dI : Nat → Nat → Nat) (base : Nat) (cy : Nat → ClassId) (o : Nat) (ho : isO 5 o) (v : VV) (L : Nat) (hL : v o 1 = nI L) (hL2 : L ≤ 17) : CI l yX5_weightedSum (.code yX5_weightedSum cX5_weightedSum 3 (some .int) :: TB) { frames := 0, cells := 0, slots := 0, locals := 0 } dC dI base cy [.ref (base + o)] v (fun (_ : Int32) (v' : VV) => v' = v) := by
  refine Met.ofW (cc := cX5_weightedSum) (maxL := 3) (ret := (some .int)) (by decide) rfl ?_
  intro p e s m args below meth c s₁ B hml hv
  obtain ⟨rfl, hP, hK⟩ := hv
  have hx := B.exec
  have hb := B.bytes
  have hr := B.returns
  have hts0 := atoms_spec (ws := (.code yX5_weightedSum cX5_weightedSum 3 (some .int) :: TB)) B.pre
  have hts : ∀ w ∈ TB, w.before ([.ref (base + o)]).toArray s = true := fun w h => hts0 w (List.mem_cons_of_mem _ h)
  have hown : s.vm.findClass RX5 = some m.cls := findClass_of_methodNamed B.named
  have hlocks := B.notSynchronized
  have hS : va_S (fun q => base ≤ q) s.heap s.heap [] := va_S.rf
  have hl := lv_entry ([.ref (base + o)]) (n := 3) (Nat.le_of_ble_eq_true rfl)
  rw [lg_entry_eq]
  generalize (lg_sl ([.ref (base + o)]) ++ List.replicate (3 - (lg_sl ([.ref (base + o)])).length) Slot.unset).toArray = ls at hl ⊢
  have hl : lv_has ls 3 [(0, .ref (base + o))] := hl
  refine lv_iconst (v := 0) hx hb dX5_weightedSum_0 (by decide) ?_
  refine lv_istore_n (lv' := [(1, .int 0), (0, .ref (base + o))]) hx hb dX5_weightedSum_1 rfl hl (by decide) rfl (fun ls hl => ?_)
  refine lv_iconst (v := 0) hx hb dX5_weightedSum_2 (by decide) ?_
  refine lv_istore_n (lv' := [(2, .int 0), (1, .int 0), (0, .ref (base + o))]) hx hb dX5_weightedSum_3 rfl hl (by decide) rfl (fun ls hl => ?_)
  refine lp5_weightedSum hx hb hml hown hts hK ⟨Nat.zero_le _, Nat.zero_le _⟩ ho hL hL2 (fun x H locs ls hl hP hS => ?_) (L + 1) 0 0 _ _ _ (by omega) (by omega) (lv_sub hl [0, 1, 2] rfl) hP hS
  refine lv_iload_n hx hb dX5_weightedSum_34 rfl (lv_at hl 0 rfl) ?_
  exact W.iret (v := x) hx hb hr (fun t ht hW => ⟨⟨x, v, rfl, rfl, by rw [ht]; exact hP, va_K.moved hW.alike hK⟩, hS.F ht⟩) hS.2.2 dX5_weightedSum_35
