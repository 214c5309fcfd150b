theorem i2 : isO 2 1 := by decide
theorem i9 : isO 9 0 := by decide
theorem i10 : isO 10 816 := by decide
theorem btw {x : Int32} {L : Nat} (h1 : ¬ x < 1) (h2 : ¬ nI L ≤ x) (hL : L < 2 ^ 31) : ∃ j : Nat, j + 1 < L ∧ x = nI (j + 1) := by
  have a1 : ¬ x.toInt < 1 := fun h => h1 (Int32.lt_iff_toInt_lt.mpr h)
  have a2 : ¬ (L : Int) ≤ x.toInt := fun h => h2 (Int32.le_iff_toInt_le.mpr (by rw [nI_toInt hL]; exact h))
  refine ⟨x.toInt.toNat - 1, by omega, ?_⟩
  apply Int32.toInt_inj.mp
  rw [nI_toInt (by omega)]
  omega
theorem litn (n : Nat) : nI n = Int32.ofNat n := rfl
set_option maxHeartbeats 4000000 in
set_option maxRecDepth 100000 in
/-- Unit.fillChecks(c, e) -/
theorem c5_fillChecks (l : Launch) (dC : Nat → ClassId) (dI : Nat → Nat → Nat) (base : Nat) (cy : Nat → ClassId) (o : Nat) (ho : isO 5 o) (v : VV) (p1 p2 : Int32) (L : Nat) (hL : v o 1 = nI L) (hL2 : L ≤ 17) : CV l yX5_fillChecks (.code yX5_fillChecks cX5_fillChecks 7 none :: TB) { frames := 0, cells := 0, slots := 0, locals := 0 } dC dI base cy [.ref (base + o), .int p1, .int p2] v (fun v' : VV => Fr (fun a => a = o + 1) v v') := by
  refine Met.ofW (cc := cX5_fillChecks) (maxL := 7) (ret := none) (by decide) rfl ?_
  intro p e s m args below meth c s₁ B hml hv
  obtain ⟨rfl, hP, hK⟩ := hv
  have hx := B.exec
  have hb := B.bytes
  have hr := B.returns
  have hts0 := atoms_spec (ws := (.code yX5_fillChecks cX5_fillChecks 7 none :: TB)) B.pre
  have hts : ∀ w ∈ TB, w.before ([.ref (base + o), .int p1, .int p2]).toArray s = true := fun w h => hts0 w (List.mem_cons_of_mem _ h)
  have hown : s.vm.findClass RX5 = some m.cls := findClass_of_methodNamed B.named
  have hlocks := B.notSynchronized
  have hS : va_S (fun q => base ≤ q) s.heap s.heap [] := va_S.rf
  have hl := lv_entry ([.ref (base + o), .int p1, .int p2]) (n := 7) (Nat.le_of_ble_eq_true rfl)
  rw [lg_entry_eq]
  generalize (lg_sl ([.ref (base + o), .int p1, .int p2]) ++ List.replicate (7 - (lg_sl ([.ref (base + o), .int p1, .int p2])).length) Slot.unset).toArray = ls at hl ⊢
  have hl : lv_has ls 7 [(0, .ref (base + o)), (1, .int p1), (2, .int p2)] := hl
  refine lv_aload_n hx hb dX5_fillChecks_0 rfl (lv_at hl 0 rfl) ?_
  have q1 := ch5_0 ho
  refine w_gR (C := RX5) (T := TX5) (N := 7) (ci := 5) hx hb hts in5 hown hK hP 0 ho.1 ho rfl (by decide) q1.1 (hts _ mf_X5_9) dX5_fillChecks_1 ?_
  refine lv_iconst (v := 0) hx hb dX5_fillChecks_4 (by decide) ?_
  refine w_ia (N := 17) hx hb hK hP q1.2.1.1 (q1.2.1) (q1.2.2) (vp_in_nI (n := 0) (by decide) (by decide)) dX5_fillChecks_5 ?_
  refine lv_topi (fun x5 ex5 => ?_)
  refine lv_istore_n (lv' := [(3, .int x5), (0, .ref (base + o)), (1, .int p1), (2, .int p2)]) hx hb dX5_fillChecks_6 rfl hl (by decide) rfl (fun ls hl => ?_)
  refine lv_aload_n hx hb dX5_fillChecks_7 rfl (lv_at hl 1 rfl) ?_
  refine w_gI (C := RX5) (T := TX5) (N := 7) (ci := 5) hx hb hts in5 hown hK hP 1 ho.1 ho rfl (by decide) (hts _ mf_X5_19) dX5_fillChecks_8 ?_
  refine lv_topi (fun x8 ex8 => ?_)
  refine lv_iload_n hx hb dX5_fillChecks_11 rfl (lv_at hl 0 rfl) ?_
  refine lv_isub hx hb dX5_fillChecks_12 ?_
  refine lv_topi (fun x12 ex12 => ?_)
  refine lv_istore (lv' := [(4, .int x12), (3, .int x5), (0, .ref (base + o)), (1, .int p1), (2, .int p2)]) hx hb dX5_fillChecks_13 hl (by decide) rfl (fun ls hl => ?_)
  refine lv_iload hx hb dX5_fillChecks_15 (lv_at hl 0 rfl) ?_
  refine lv_iload_n hx hb dX5_fillChecks_17 rfl (lv_at hl 3 rfl) ?_
  refine lv_imul hx hb dX5_fillChecks_18 ?_
  refine lv_topi (fun x18 ex18 => ?_)
  refine lv_iload_n hx hb dX5_fillChecks_19 rfl (lv_at hl 4 rfl) ?_
  refine lv_isub hx hb dX5_fillChecks_20 ?_
  refine lv_topi (fun x20 ex20 => ?_)
  refine lv_sipush (v := 255) hx hb dX5_fillChecks_21 (by decide) ?_
  refine lv_irem hx hb dX5_fillChecks_24 (by decide) ?_
  refine lv_topi (fun x24 ex24 => ?_)
  refine lv_istore (lv' := [(5, .int x24), (4, .int x12), (3, .int x5), (0, .ref (base + o)), (1, .int p1), (2, .int p2)]) hx hb dX5_fillChecks_25 hl (by decide) rfl (fun ls hl => ?_)
  refine lv_iload_n hx hb dX5_fillChecks_27 rfl (lv_at hl 5 rfl) ?_
  refine lv_iload hx hb dX5_fillChecks_28 (lv_at hl 1 rfl) ?_
  refine lv_iconst (v := 1) hx hb dX5_fillChecks_30 (by decide) ?_
  refine lv_iadd hx hb dX5_fillChecks_31 ?_
  refine lv_topi (fun x31 ex31 => ?_)
  refine lv_iload_n hx hb dX5_fillChecks_32 rfl (lv_at hl 4 rfl) ?_
  refine lv_imul hx hb dX5_fillChecks_33 ?_
  refine lv_topi (fun x33 ex33 => ?_)
  refine lv_isub hx hb dX5_fillChecks_34 ?_
  refine lv_topi (fun x34 ex34 => ?_)
  refine lv_sipush (v := 255) hx hb dX5_fillChecks_35 (by decide) ?_
  refine lv_irem hx hb dX5_fillChecks_38 (by decide) ?_
  refine lv_topi (fun x38 ex38 => ?_)
  refine lv_istore (lv' := [(6, .int x38), (5, .int x24), (4, .int x12), (3, .int x5), (0, .ref (base + o)), (1, .int p1), (2, .int p2)]) hx hb dX5_fillChecks_39 hl (by decide) rfl (fun ls hl => ?_)
  refine lv_iload_n hx hb dX5_fillChecks_41 rfl (lv_at hl 3 rfl) ?_
  refine lv_iconst (v := 1) hx hb dX5_fillChecks_42 (by decide) ?_
  refine lv_icmp_lt (tgt := 100) hx hb dX5_fillChecks_43 (by decide) (fun c43 => ?_) (fun c43 => ?_)
  · exact W.vret hx hb hr (fun t ht hW => ⟨⟨v, rfl, by
        skip
        repeat (first | exact Fr.rf | refine Fr.up ?_ _ _ _ (by simp)), by rw [ht]; exact hP, va_K.moved hW.alike hK⟩, hS.F ht⟩) hS.2.2 dX5_fillChecks_100
  · refine lv_iload_n hx hb dX5_fillChecks_46 rfl (lv_at hl 3 rfl) ?_
    refine lv_aload_n hx hb dX5_fillChecks_47 rfl (lv_at hl 4 rfl) ?_
    refine w_gI (C := RX5) (T := TX5) (N := 7) (ci := 5) hx hb hts in5 hown hK hP 1 ho.1 ho rfl (by decide) (hts _ mf_X5_19) dX5_fillChecks_48 ?_
    refine lv_topi (fun x48 ex48 => ?_)
    refine lv_icmp_ge (tgt := 100) hx hb dX5_fillChecks_51 (by decide) (fun c51 => ?_) (fun c51 => ?_)
    · exact W.vret hx hb hr (fun t ht hW => ⟨⟨v, rfl, by
          skip
          repeat (first | exact Fr.rf | refine Fr.up ?_ _ _ _ (by simp)), by rw [ht]; exact hP, va_K.moved hW.alike hK⟩, hS.F ht⟩) hS.2.2 dX5_fillChecks_100
    · obtain ⟨j, hj, ej⟩ := btw c43 (by rw [← hL, ← ex48]; exact c51) (by omega)
      refine lv_aload_n hx hb dX5_fillChecks_54 rfl (lv_at hl 4 rfl) ?_
      have q2 := ch5_0 ho
      refine w_gR (C := RX5) (T := TX5) (N := 7) (ci := 5) hx hb hts in5 hown hK hP 0 ho.1 ho rfl (by decide) q2.1 (hts _ mf_X5_9) dX5_fillChecks_55 ?_
      refine lv_iload_n hx hb dX5_fillChecks_58 rfl (lv_at hl 3 rfl) ?_
      refine lv_iconst (v := 1) hx hb dX5_fillChecks_59 (by decide) ?_
      refine lv_isub hx hb dX5_fillChecks_60 ?_
      refine lv_topi (fun x60 ex60 => ?_)
      refine lv_iload hx hb dX5_fillChecks_61 (lv_at hl 1 rfl) ?_
      refine lv_if_ge (tgt := 75) hx hb dX5_fillChecks_63 (by decide) (fun c63 => ?_) (fun c63 => ?_)
      · refine lv_iload hx hb dX5_fillChecks_75 (lv_at hl 1 rfl) ?_
        refine w_is (N := 17) hx hb hK hP hS q2.2.1.1 (q2.2.1) (q2.2.2) (by rw [ex60, ej, nI_pred]; exact vp_in_nI (by omega) (by decide)) dX5_fillChecks_77 (fun v3 H locs hv3 hP hz hS => ?_)
        refine lv_aload_n hx hb dX5_fillChecks_78 rfl (lv_at hl 4 rfl) ?_
        have q4 := ch5_0 ho
        refine w_gR (C := RX5) (T := TX5) (N := 7) (ci := 5) hx hb hts in5 hown hK hP 0 ho.1 ho rfl (by decide) q4.1 (hts _ mf_X5_9) dX5_fillChecks_79 ?_
        refine lv_iload_n hx hb dX5_fillChecks_82 rfl (lv_at hl 3 rfl) ?_
        refine lv_iload hx hb dX5_fillChecks_83 (lv_at hl 0 rfl) ?_
        refine lv_if_ge (tgt := 97) hx hb dX5_fillChecks_85 (by decide) (fun c85 => ?_) (fun c85 => ?_)
        · refine lv_iload hx hb dX5_fillChecks_97 (lv_at hl 0 rfl) ?_
          refine w_is (N := 17) hx hb hK hP hS q4.2.1.1 (q4.2.1) (q4.2.2) (by rw [ej]; exact vp_in_nI (by omega) (by decide)) dX5_fillChecks_99 (fun v5 H locs hv5 hP hz hS => ?_)
          exact W.vret hx hb hr (fun t ht hW => ⟨⟨v5, rfl, by
              subst hv5 hv3
              repeat (first | exact Fr.rf | refine Fr.up ?_ _ _ _ (by simp)), by rw [ht]; exact hP, va_K.moved hW.alike hK⟩, hS.F ht⟩) hS.2.2 dX5_fillChecks_100
        · refine lv_iload hx hb dX5_fillChecks_88 (lv_at hl 0 rfl) ?_
          refine lv_sipush (v := 255) hx hb dX5_fillChecks_90 (by decide) ?_
          refine lv_iadd hx hb dX5_fillChecks_93 ?_
          refine lv_topi (fun x93 ex93 => ?_)
          refine lv_goto (tgt := 99) hx hb dX5_fillChecks_94 (by decide) ?_
          refine w_is (N := 17) hx hb hK hP hS q4.2.1.1 (q4.2.1) (q4.2.2) (by rw [ej]; exact vp_in_nI (by omega) (by decide)) dX5_fillChecks_99 (fun v6 H locs hv6 hP hz hS => ?_)
          exact W.vret hx hb hr (fun t ht hW => ⟨⟨v6, rfl, by
              subst hv6 hv3
              repeat (first | exact Fr.rf | refine Fr.up ?_ _ _ _ (by simp)), by rw [ht]; exact hP, va_K.moved hW.alike hK⟩, hS.F ht⟩) hS.2.2 dX5_fillChecks_100
      · refine lv_iload hx hb dX5_fillChecks_66 (lv_at hl 1 rfl) ?_
        refine lv_sipush (v := 255) hx hb dX5_fillChecks_68 (by decide) ?_
        refine lv_iadd hx hb dX5_fillChecks_71 ?_
        refine lv_topi (fun x71 ex71 => ?_)
        refine lv_goto (tgt := 77) hx hb dX5_fillChecks_72 (by decide) ?_
        refine w_is (N := 17) hx hb hK hP hS q2.2.1.1 (q2.2.1) (q2.2.2) (by rw [ex60, ej, nI_pred]; exact vp_in_nI (by omega) (by decide)) dX5_fillChecks_77 (fun v7 H locs hv7 hP hz hS => ?_)
        refine lv_aload_n hx hb dX5_fillChecks_78 rfl (lv_at hl 4 rfl) ?_
        have q8 := ch5_0 ho
        refine w_gR (C := RX5) (T := TX5) (N := 7) (ci := 5) hx hb hts in5 hown hK hP 0 ho.1 ho rfl (by decide) q8.1 (hts _ mf_X5_9) dX5_fillChecks_79 ?_
        refine lv_iload_n hx hb dX5_fillChecks_82 rfl (lv_at hl 3 rfl) ?_
        refine lv_iload hx hb dX5_fillChecks_83 (lv_at hl 0 rfl) ?_
        refine lv_if_ge (tgt := 97) hx hb dX5_fillChecks_85 (by decide) (fun c85 => ?_) (fun c85 => ?_)
        · refine lv_iload hx hb dX5_fillChecks_97 (lv_at hl 0 rfl) ?_
          refine w_is (N := 17) hx hb hK hP hS q8.2.1.1 (q8.2.1) (q8.2.2) (by rw [ej]; exact vp_in_nI (by omega) (by decide)) dX5_fillChecks_99 (fun v9 H locs hv9 hP hz hS => ?_)
          exact W.vret hx hb hr (fun t ht hW => ⟨⟨v9, rfl, by
              subst hv9 hv7
              repeat (first | exact Fr.rf | refine Fr.up ?_ _ _ _ (by simp)), by rw [ht]; exact hP, va_K.moved hW.alike hK⟩, hS.F ht⟩) hS.2.2 dX5_fillChecks_100
        · refine lv_iload hx hb dX5_fillChecks_88 (lv_at hl 0 rfl) ?_
          refine lv_sipush (v := 255) hx hb dX5_fillChecks_90 (by decide) ?_
          refine lv_iadd hx hb dX5_fillChecks_93 ?_
          refine lv_topi (fun x93 ex93 => ?_)
          refine lv_goto (tgt := 99) hx hb dX5_fillChecks_94 (by decide) ?_
          refine w_is (N := 17) hx hb hK hP hS q8.2.1.1 (q8.2.1) (q8.2.2) (by rw [ej]; exact vp_in_nI (by omega) (by decide)) dX5_fillChecks_99 (fun v10 H locs hv10 hP hz hS => ?_)
          exact W.vret hx hb hr (fun t ht hW => ⟨⟨v10, rfl, by
              subst hv10 hv7
              repeat (first | exact Fr.rf | refine Fr.up ?_ _ _ _ (by simp)), by rw [ht]; exact hP, va_K.moved hW.alike hK⟩, hS.F ht⟩) hS.2.2 dX5_fillChecks_100
set_option maxHeartbeats 4000000 in
set_option maxRecDepth 100000 in
/-- the loop of Inbox.clear -/
theorem lp1_clear {p : Program} {l : Launch} {e : Env} {R : Room} {s : State} {m : MethodId} {args : Array Value} {below : List Frame} {meth : Method} {c : Code} {cells slots : Nat} {Q : State → Prop} {dC : Nat → ClassId} {dI : Nat → Nat → Nat} {base : Nat} {cy : Nat → ClassId} {H0 : Heap} (hx : p.tables.exec = Jvm.exec) (hb : c.code = cX1_clear) (hml : c.maxLocals = 2) (hown : s.vm.findClass RX1 = some m.cls) (hts : ∀ w ∈ TB, w.before args s = true) (hK : va_K (dC, dI) vwCl (tyL cy) s) (hcs : cells ≤ R.cells ∧ slots ≤ R.slots) {o : Nat} (ho : isO 1 o) {v0 : VV} (hex : ∀ (v : VV) (H : Heap) (locs : List Loc) (ls : Array Slot), Fr (fun a => a = o + 12) v0 v → lv_has ls 2 [(0, .ref (base + o))] → va_P (dC, dI) vwCl (Wd base cy rf v 874) H → va_S (fun q => base ≤ q) H0 H locs → W p l e R s m args below meth c H locs cells slots Q (F0 m 21 ls [])) : ∀ (k : Nat) (i : Nat) (v : VV) (H : Heap) (locs : List Loc) (ls : Array Slot), i ≤ 8 → 8 + 1 ≤ i + k → Fr (fun a => a = o + 12) v0 v → lv_has ls 2 [(1, .int (nI i)), (0, .ref (base + o))] → va_P (dC, dI) vwCl (Wd base cy rf v 874) H → va_S (fun q => base ≤ q) H0 H locs → W p l e R s m args below meth c H locs cells slots Q (F0 m 2 ls []) := by
  intro k
  induction k with
  | zero =>
    intro i v H locs ls hi hk hF hl hP hS
    omega
  | succ k ih =>
    intro i v H locs ls hi hk hF hl hP hS
    refine lv_iload_n hx hb dX1_clear_2 rfl (lv_at hl 0 rfl) ?_
    refine lv_bipush (v := 8) hx hb dX1_clear_3 (by decide) ?_
    refine lv_icmp_ge (tgt := 21) hx hb dX1_clear_5 (by decide) (fun c5 => ?_) (fun c5 => ?_)
    · exact hex _ _ _ _ hF (lv_sub hl [1] rfl) hP hS
    · have hi2 : i < 8 := nI_nlit_le (n := 8) rfl c5 (by omega) (by decide)
      refine lv_aload_n hx hb dX1_clear_8 rfl (lv_at hl 1 rfl) ?_
      have q1 := ch1_3 ho
      refine w_gR (C := RX1) (T := TX1) (N := 15) (ci := 1) hx hb hts in1 hown hK hP 3 ho.1 ho rfl (by decide) q1.1 (hts _ mf_X1_24) dX1_clear_9 ?_
      refine lv_iload_n hx hb dX1_clear_12 rfl (lv_at hl 0 rfl) ?_
      refine lv_iconst (v := 0) hx hb dX1_clear_13 (by decide) ?_
      refine w_zs (N := 8) hx hb hK hP hS q1.2.1.1 (q1.2.1) (q1.2.2) (vp_in_nI hi2 (by decide)) dX1_clear_14 (fun v2 H locs hv2 hP hz hS => ?_)
      obtain ⟨x15, ex15⟩ : ∃ y : Int32, y = (nI i) + 1 := ⟨_, rfl⟩
      refine lv_iinc (v := x15) (lv' := [(1, .int x15), (0, .ref (base + o))]) hx hb dX1_clear_15 hl (k := 0) rfl (by rw [ex15]; first | rfl | (rw [show Int32.ofInt (-1) = (-1 : Int32) from by decide])) (by decide) rfl (fun ls hl => ?_)
      refine lv_goto (tgt := 2) hx hb dX1_clear_18 (by decide) ?_
      exact ih (i + 1) v2 _ _ _ (by omega) (by omega) (by rw [hv2]; exact hF.up _ _ _ (by simp)) (by rw [← nI_1 i, ← ex15]; exact lv_sub hl [0, 1] rfl) hP hS
set_option maxHeartbeats 4000000 in
set_option maxRecDepth 100000 in
/-- Inbox.clear() -/
theorem c1_clear (l : Launch) (dC : Nat → ClassId) (dI : Nat → Nat → Nat) (base : Nat) (cy : Nat → ClassId) (o : Nat) (ho : isO 1 o) (v : VV) : CV l yX1_clear (.code yX1_clear cX1_clear 2 none :: TB) { frames := 0, cells := 0, slots := 0, locals := 0 } dC dI base cy [.ref (base + o)] v (fun v' : VV => Fr (fun a => a = o ∨ a = o + 12) v v') := by
  refine Met.ofW (cc := cX1_clear) (maxL := 2) (ret := none) (by decide) rfl ?_
  intro p e s m args below meth c s₁ B hml hv
  obtain ⟨rfl, hP, hK⟩ := hv
  have hx := B.exec
  have hb := B.bytes
  have hr := B.returns
  have hts0 := atoms_spec (ws := (.code yX1_clear cX1_clear 2 none :: TB)) B.pre
  have hts : ∀ w ∈ TB, w.before ([.ref (base + o)]).toArray s = true := fun w h => hts0 w (List.mem_cons_of_mem _ h)
  have hown : s.vm.findClass RX1 = some m.cls := findClass_of_methodNamed B.named
  have hlocks := B.notSynchronized
  have hS : va_S (fun q => base ≤ q) s.heap s.heap [] := va_S.rf
  have hl := lv_entry ([.ref (base + o)]) (n := 2) (Nat.le_of_ble_eq_true rfl)
  rw [lg_entry_eq]
  generalize (lg_sl ([.ref (base + o)]) ++ List.replicate (2 - (lg_sl ([.ref (base + o)])).length) Slot.unset).toArray = ls at hl ⊢
  have hl : lv_has ls 2 [(0, .ref (base + o))] := hl
  refine lv_iconst (v := 0) hx hb dX1_clear_0 (by decide) ?_
  refine lv_istore_n (lv' := [(1, .int 0), (0, .ref (base + o))]) hx hb dX1_clear_1 rfl hl (by decide) rfl (fun ls hl => ?_)
  refine lp1_clear hx hb hml hown hts hK ⟨Nat.zero_le _, Nat.zero_le _⟩ ho (fun w H locs ls hF hl hP hS => ?_) 9 0 v _ _ _ (by omega) (by omega) Fr.rf (lv_sub hl [0, 1] rfl) hP hS
  refine lv_aload_n hx hb dX1_clear_21 rfl (lv_at hl 0 rfl) ?_
  refine lv_iconst (v := 0) hx hb dX1_clear_22 (by decide) ?_
  refine w_pI (C := RX1) (T := TX1) (N := 15) (ci := 1) hx hb hts in1 tyX1 tyX1_ok nmX1 hown hK hP hS 8 ho.1 ho rfl (by decide) (hts _ mf_X1_39) rfl (ty := .int) (by decide +kernel) rfl rfl dX1_clear_23 (fun v1 H locs hv1 hP hz hS => ?_)
  refine lv_aload_n hx hb dX1_clear_26 rfl (lv_at hl 0 rfl) ?_
  refine lv_iconst (v := 0) hx hb dX1_clear_27 (by decide) ?_
  refine w_pI (C := RX1) (T := TX1) (N := 15) (ci := 1) hx hb hts in1 tyX1 tyX1_ok nmX1 hown hK hP hS 9 ho.1 ho rfl (by decide) (hts _ mf_X1_43) rfl (ty := .int) (by decide +kernel) rfl rfl dX1_clear_28 (fun v2 H locs hv2 hP hz hS => ?_)
  refine lv_aload_n hx hb dX1_clear_31 rfl (lv_at hl 0 rfl) ?_
  refine lv_iconst (v := 0) hx hb dX1_clear_32 (by decide) ?_
  refine w_pI (C := RX1) (T := TX1) (N := 15) (ci := 1) hx hb hts in1 tyX1 tyX1_ok nmX1 hown hK hP hS 10 ho.1 ho rfl (by decide) (hts _ mf_X1_46) rfl (ty := .int) (by decide +kernel) rfl rfl dX1_clear_33 (fun v3 H locs hv3 hP hz hS => ?_)
  refine lv_aload_n hx hb dX1_clear_36 rfl (lv_at hl 0 rfl) ?_
  refine lv_iconst (v := 0) hx hb dX1_clear_37 (by decide) ?_
  refine w_pI (C := RX1) (T := TX1) (N := 15) (ci := 1) hx hb hts in1 tyX1 tyX1_ok nmX1 hown hK hP hS 11 ho.1 ho rfl (by decide) (hts _ mf_X1_49) rfl (ty := .int) (by decide +kernel) rfl rfl dX1_clear_38 (fun v4 H locs hv4 hP hz hS => ?_)
  refine lv_aload_n hx hb dX1_clear_41 rfl (lv_at hl 0 rfl) ?_
  refine lv_iconst (v := 0) hx hb dX1_clear_42 (by decide) ?_
  refine w_pI (C := RX1) (T := TX1) (N := 15) (ci := 1) hx hb hts in1 tyX1 tyX1_ok nmX1 hown hK hP hS 12 ho.1 ho rfl (by decide) (hts _ mf_X1_52) rfl (ty := .int) (by decide +kernel) rfl rfl dX1_clear_43 (fun v5 H locs hv5 hP hz hS => ?_)
  refine lv_aload_n hx hb dX1_clear_46 rfl (lv_at hl 0 rfl) ?_
  refine lv_iconst (v := 0) hx hb dX1_clear_47 (by decide) ?_
  refine w_pI (C := RX1) (T := TX1) (N := 15) (ci := 1) hx hb hts in1 tyX1 tyX1_ok nmX1 hown hK hP hS 13 ho.1 ho rfl (by decide) (hts _ mf_X1_55) rfl (ty := .int) (by decide +kernel) rfl rfl dX1_clear_48 (fun v6 H locs hv6 hP hz hS => ?_)
  exact W.vret hx hb hr (fun t ht hW => ⟨⟨v6, rfl, by
      refine Fr.tr (hF.w (fun a h => Or.inr h)) ?_
      subst hv6 hv5 hv4 hv3 hv2 hv1
      repeat (first | exact Fr.rf | refine Fr.up ?_ _ _ _ (by simp)), by rw [ht]; exact hP, va_K.moved hW.alike hK⟩, hS.F ht⟩) hS.2.2 dX1_clear_51
set_option maxHeartbeats 4000000 in
set_option maxRecDepth 100000 in
/-- Inbox.credit() -/
theorem c1_credit (l : Launch) (dC : Nat → ClassId) (dI : Nat → Nat → Nat) (base : Nat) (cy : Nat → ClassId) (o : Nat) (ho : isO 1 o) (v : VV) : CI l yX1_credit (.code yX1_credit cX1_credit 1 (some .int) :: TB) { frames := 1, cells := 0, slots := 0, locals := 20 } dC dI base cy [.ref (base + o)] v (fun (x : Int32) (v' : VV) => v' = v ∧ x = (if (0 : Int32) < 6 - v o 11 then 6 - v o 11 else 0)) := by
  refine Met.ofW (cc := cX1_credit) (maxL := 1) (ret := (some .int)) (by decide) rfl ?_
  intro p e s m args below meth c s₁ B hml hv
  obtain ⟨rfl, hP, hK⟩ := hv
  have hx := B.exec
  have hb := B.bytes
  have hr := B.returns
  have hts0 := atoms_spec (ws := (.code yX1_credit cX1_credit 1 (some .int) :: TB)) B.pre
  have hts : ∀ w ∈ TB, w.before ([.ref (base + o)]).toArray s = true := fun w h => hts0 w (List.mem_cons_of_mem _ h)
  have hown : s.vm.findClass RX1 = some m.cls := findClass_of_methodNamed B.named
  have hlocks := B.notSynchronized
  have hS : va_S (fun q => base ≤ q) s.heap s.heap [] := va_S.rf
  have hl := lv_entry ([.ref (base + o)]) (n := 1) (Nat.le_of_ble_eq_true rfl)
  rw [lg_entry_eq]
  generalize (lg_sl ([.ref (base + o)]) ++ List.replicate (1 - (lg_sl ([.ref (base + o)])).length) Slot.unset).toArray = ls at hl ⊢
  have hl : lv_has ls 1 [(0, .ref (base + o))] := hl
  refine lv_iconst (v := 0) hx hb dX1_credit_0 (by decide) ?_
  refine lv_bipush (v := 6) hx hb dX1_credit_1 (by decide) ?_
  refine lv_aload_n hx hb dX1_credit_3 rfl (lv_at hl 0 rfl) ?_
  refine w_gI (C := RX1) (T := TX1) (N := 15) (ci := 1) hx hb hts in1 hown hK hP 11 ho.1 ho rfl (by decide) (hts _ mf_X1_49) dX1_credit_4 ?_
  refine lv_topi (fun x4 ex4 => ?_)
  refine lv_isub hx hb dX1_credit_7 ?_
  refine lv_topi (fun x7 ex7 => ?_)
  refine va_mmax hx hb (hml.trans hl.1.symm) hown (hts _ ml_X1_58) (hts _ mt_J9_max_7cf53) (hts _ mn_J9) (hts _ mo_J9_max_7cf53) (by decide) (by decide) (Nat.zero_le _) (Nat.zero_le _) dX1_credit_8 ?_
  refine lv_topi (fun x8 ex8 => ?_)
  exact W.iret (v := x8) hx hb hr (fun t ht hW => ⟨⟨x8, v, rfl, ⟨rfl, by rw [ex8, ex7, ex4]⟩, by rw [ht]; exact hP, va_K.moved hW.alike hK⟩, hS.F ht⟩) hS.2.2 dX1_credit_11
set_option maxHeartbeats 4000000 in
set_option maxRecDepth 100000 in
/-- Inbox.takeNext() where no message is there -/
theorem c1_takeNext0 (l : Launch) (dC : Nat → ClassId) (dI : Nat → Nat → Nat) (base : Nat) (cy : Nat → ClassId) (o : Nat) (ho : isO 1 o) (v : VV) (h0 : v o 10 = 0) : CI l yX1_takeNext (.code yX1_takeNext cX1_takeNext 1 (some .int) :: TB) { frames := 0, cells := 0, slots := 0, locals := 0 } dC dI base cy [.ref (base + o)] v (fun (x : Int32) (v' : VV) => v' = v ∧ x = -2) := by
  refine Met.ofW (cc := cX1_takeNext) (maxL := 1) (ret := (some .int)) (by decide) rfl ?_
  intro p e s m args below meth c s₁ B hml hv
  obtain ⟨rfl, hP, hK⟩ := hv
  have hx := B.exec
  have hb := B.bytes
  have hr := B.returns
  have hts0 := atoms_spec (ws := (.code yX1_takeNext cX1_takeNext 1 (some .int) :: TB)) B.pre
  have hts : ∀ w ∈ TB, w.before ([.ref (base + o)]).toArray s = true := fun w h => hts0 w (List.mem_cons_of_mem _ h)
  have hown : s.vm.findClass RX1 = some m.cls := findClass_of_methodNamed B.named
  have hlocks := B.notSynchronized
  have hS : va_S (fun q => base ≤ q) s.heap s.heap [] := va_S.rf
  have hl := lv_entry ([.ref (base + o)]) (n := 1) (Nat.le_of_ble_eq_true rfl)
  rw [lg_entry_eq]
  generalize (lg_sl ([.ref (base + o)]) ++ List.replicate (1 - (lg_sl ([.ref (base + o)])).length) Slot.unset).toArray = ls at hl ⊢
  have hl : lv_has ls 1 [(0, .ref (base + o))] := hl
  refine lv_aload_n hx hb dX1_takeNext_0 rfl (lv_at hl 0 rfl) ?_
  refine w_gI (C := RX1) (T := TX1) (N := 15) (ci := 1) hx hb hts in1 hown hK hP 10 ho.1 ho rfl (by decide) (hts _ mf_X1_46) dX1_takeNext_1 ?_
  refine lv_topi (fun x1 ex1 => ?_)
  refine lv_if_ne (tgt := 10) hx hb dX1_takeNext_4 (by decide) (fun c4 => ?_) (fun c4 => ?_)
  · exact absurd (ex1.trans h0) c4
  · refine lv_bipush (v := -2) hx hb dX1_takeNext_7 (by decide) ?_
    exact W.iret (v := (-2)) hx hb hr (fun t ht hW => ⟨⟨(-2), v, rfl, ⟨rfl, rfl⟩, by rw [ht]; exact hP, va_K.moved hW.alike hK⟩, hS.F ht⟩) hS.2.2 dX1_takeNext_9
set_option maxHeartbeats 4000000 in
set_option maxRecDepth 100000 in
/-- Inbox.takenByte(i) where none was taken -/
theorem c1_takenByte0 (l : Launch) (dC : Nat → ClassId) (dI : Nat → Nat → Nat) (base : Nat) (cy : Nat → ClassId) (o : Nat) (ho : isO 1 o) (v : VV) (p1 : Int32) (h0 : v o 14 = 0) : CI l yX1_takenByte (.code yX1_takenByte cX1_takenByte 2 (some .int) :: TB) { frames := 0, cells := 0, slots := 0, locals := 0 } dC dI base cy [.ref (base + o), .int p1] v (fun (x : Int32) (v' : VV) => v' = v ∧ x = -1) := by
  refine Met.ofW (cc := cX1_takenByte) (maxL := 2) (ret := (some .int)) (by decide) rfl ?_
  intro p e s m args below meth c s₁ B hml hv
  obtain ⟨rfl, hP, hK⟩ := hv
  have hx := B.exec
  have hb := B.bytes
  have hr := B.returns
  have hts0 := atoms_spec (ws := (.code yX1_takenByte cX1_takenByte 2 (some .int) :: TB)) B.pre
  have hts : ∀ w ∈ TB, w.before ([.ref (base + o), .int p1]).toArray s = true := fun w h => hts0 w (List.mem_cons_of_mem _ h)
  have hown : s.vm.findClass RX1 = some m.cls := findClass_of_methodNamed B.named
  have hlocks := B.notSynchronized
  have hS : va_S (fun q => base ≤ q) s.heap s.heap [] := va_S.rf
  have hl := lv_entry ([.ref (base + o), .int p1]) (n := 2) (Nat.le_of_ble_eq_true rfl)
  rw [lg_entry_eq]
  generalize (lg_sl ([.ref (base + o), .int p1]) ++ List.replicate (2 - (lg_sl ([.ref (base + o), .int p1])).length) Slot.unset).toArray = ls at hl ⊢
  have hl : lv_has ls 2 [(0, .ref (base + o)), (1, .int p1)] := hl
  refine lv_iload_n hx hb dX1_takenByte_0 rfl (lv_at hl 1 rfl) ?_
  refine lv_if_lt (tgt := 12) hx hb dX1_takenByte_1 (by decide) (fun c1 => ?_) (fun c1 => ?_)
  · refine lv_iconst (v := -1) hx hb dX1_takenByte_12 (by decide) ?_
    refine lv_goto (tgt := 22) hx hb dX1_takenByte_13 (by decide) ?_
    exact W.iret (v := (-1)) hx hb hr (fun t ht hW => ⟨⟨(-1), v, rfl, ⟨rfl, rfl⟩, by rw [ht]; exact hP, va_K.moved hW.alike hK⟩, hS.F ht⟩) hS.2.2 dX1_takenByte_22
  · refine lv_iload_n hx hb dX1_takenByte_4 rfl (lv_at hl 1 rfl) ?_
    refine lv_aload_n hx hb dX1_takenByte_5 rfl (lv_at hl 0 rfl) ?_
    refine w_gI (C := RX1) (T := TX1) (N := 15) (ci := 1) hx hb hts in1 hown hK hP 14 ho.1 ho rfl (by decide) (hts _ mf_X1_96) dX1_takenByte_6 ?_
    refine lv_topi (fun x6 ex6 => ?_)
    refine lv_icmp_lt (tgt := 16) hx hb dX1_takenByte_9 (by decide) (fun c9 => ?_) (fun c9 => ?_)
    · exact absurd (by rw [ex6, h0] at c9; exact c9) c1
    · refine lv_iconst (v := -1) hx hb dX1_takenByte_12 (by decide) ?_
      refine lv_goto (tgt := 22) hx hb dX1_takenByte_13 (by decide) ?_
      exact W.iret (v := (-1)) hx hb hr (fun t ht hW => ⟨⟨(-1), v, rfl, ⟨rfl, rfl⟩, by rw [ht]; exact hP, va_K.moved hW.alike hK⟩, hS.F ht⟩) hS.2.2 dX1_takenByte_22
set_option maxHeartbeats 4000000 in
set_option maxRecDepth 100000 in
/-- UrgentIn.takeByte() where none is there -/
theorem c6_takeByte0 (l : Launch) (dC : Nat → ClassId) (dI : Nat → Nat → Nat) (base : Nat) (cy : Nat → ClassId) (o : Nat) (ho : isO 6 o) (v : VV) (h0 : v o 2 = 0) : CI l yX6_takeByte (.code yX6_takeByte cX6_takeByte 2 (some .int) :: TB) { frames := 0, cells := 0, slots := 0, locals := 0 } dC dI base cy [.ref (base + o)] v (fun (x : Int32) (v' : VV) => v' = v ∧ x = -2) := by
  refine Met.ofW (cc := cX6_takeByte) (maxL := 2) (ret := (some .int)) (by decide) rfl ?_
  intro p e s m args below meth c s₁ B hml hv
  obtain ⟨rfl, hP, hK⟩ := hv
  have hx := B.exec
  have hb := B.bytes
  have hr := B.returns
  have hts0 := atoms_spec (ws := (.code yX6_takeByte cX6_takeByte 2 (some .int) :: TB)) B.pre
  have hts : ∀ w ∈ TB, w.before ([.ref (base + o)]).toArray s = true := fun w h => hts0 w (List.mem_cons_of_mem _ h)
  have hown : s.vm.findClass RX6 = some m.cls := findClass_of_methodNamed B.named
  have hlocks := B.notSynchronized
  have hS : va_S (fun q => base ≤ q) s.heap s.heap [] := va_S.rf
  have hl := lv_entry ([.ref (base + o)]) (n := 2) (Nat.le_of_ble_eq_true rfl)
  rw [lg_entry_eq]
  generalize (lg_sl ([.ref (base + o)]) ++ List.replicate (2 - (lg_sl ([.ref (base + o)])).length) Slot.unset).toArray = ls at hl ⊢
  have hl : lv_has ls 2 [(0, .ref (base + o))] := hl
  refine lv_aload_n hx hb dX6_takeByte_0 rfl (lv_at hl 0 rfl) ?_
  refine w_gI (C := RX6) (T := TX6) (N := 4) (ci := 6) hx hb hts in6 hown hK hP 2 ho.1 ho rfl (by decide) (hts _ mf_X6_15) dX6_takeByte_1 ?_
  refine lv_topi (fun x1 ex1 => ?_)
  refine lv_if_ne (tgt := 10) hx hb dX6_takeByte_4 (by decide) (fun c4 => ?_) (fun c4 => ?_)
  · exact absurd (ex1.trans h0) c4
  · refine lv_bipush (v := -2) hx hb dX6_takeByte_7 (by decide) ?_
    exact W.iret (v := (-2)) hx hb hr (fun t ht hW => ⟨⟨(-2), v, rfl, ⟨rfl, rfl⟩, by rw [ht]; exact hP, va_K.moved hW.alike hK⟩, hS.F ht⟩) hS.2.2 dX6_takeByte_9
set_option maxHeartbeats 4000000 in
set_option maxRecDepth 100000 in
/-- Outbox.numberAt(i) -/
theorem c3_numberAt (l : Launch) (dC : Nat → ClassId) (dI : Nat → Nat → Nat) (base : Nat) (cy : Nat → ClassId) (o : Nat) (ho : isO 3 o) (v : VV) (p1 : Int32) : CI l yX3_numberAt (.code yX3_numberAt cX3_numberAt 2 (some .int) :: TB) { frames := 0, cells := 0, slots := 0, locals := 0 } dC dI base cy [.ref (base + o), .int p1] v (fun (x : Int32) (v' : VV) => v' = v ∧ x = (v o 4 + p1) &&& 127) := by
  refine Met.ofW (cc := cX3_numberAt) (maxL := 2) (ret := (some .int)) (by decide) rfl ?_
  intro p e s m args below meth c s₁ B hml hv
  obtain ⟨rfl, hP, hK⟩ := hv
  have hx := B.exec
  have hb := B.bytes
  have hr := B.returns
  have hts0 := atoms_spec (ws := (.code yX3_numberAt cX3_numberAt 2 (some .int) :: TB)) B.pre
  have hts : ∀ w ∈ TB, w.before ([.ref (base + o), .int p1]).toArray s = true := fun w h => hts0 w (List.mem_cons_of_mem _ h)
  have hown : s.vm.findClass RX3 = some m.cls := findClass_of_methodNamed B.named
  have hlocks := B.notSynchronized
  have hS : va_S (fun q => base ≤ q) s.heap s.heap [] := va_S.rf
  have hl := lv_entry ([.ref (base + o), .int p1]) (n := 2) (Nat.le_of_ble_eq_true rfl)
  rw [lg_entry_eq]
  generalize (lg_sl ([.ref (base + o), .int p1]) ++ List.replicate (2 - (lg_sl ([.ref (base + o), .int p1])).length) Slot.unset).toArray = ls at hl ⊢
  have hl : lv_has ls 2 [(0, .ref (base + o)), (1, .int p1)] := hl
  refine lv_aload_n hx hb dX3_numberAt_0 rfl (lv_at hl 0 rfl) ?_
  refine w_gI (C := RX3) (T := TX3) (N := 6) (ci := 3) hx hb hts in3 hown hK hP 4 ho.1 ho rfl (by decide) (hts _ mf_X3_25) dX3_numberAt_1 ?_
  refine lv_topi (fun x1 ex1 => ?_)
  refine lv_iload_n hx hb dX3_numberAt_4 rfl (lv_at hl 1 rfl) ?_
  refine lv_iadd hx hb dX3_numberAt_5 ?_
  refine lv_topi (fun x5 ex5 => ?_)
  refine lv_bipush (v := 127) hx hb dX3_numberAt_6 (by decide) ?_
  refine lv_iand hx hb dX3_numberAt_8 ?_
  refine lv_topi (fun x8 ex8 => ?_)
  exact W.iret (v := x8) hx hb hr (fun t ht hW => ⟨⟨x8, v, rfl, ⟨rfl, by rw [ex8, ex5, ex1]⟩, by rw [ht]; exact hP, va_K.moved hW.alike hK⟩, hS.F ht⟩) hS.2.2 dX3_numberAt_9
