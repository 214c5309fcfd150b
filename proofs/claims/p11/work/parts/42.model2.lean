set_option maxHeartbeats 4000000 in
set_option maxRecDepth 100000 in
/-- the loop of fresh -/
theorem lpk_fresh {p : Program} {l : Launch} {e : Env} {R : Room} {s : State} {m : MethodId} {args : Array Value} {below : List Frame} {meth : Method} {c : Code} {cells slots : Nat} {Q : State → Prop} {dC : Nat → ClassId} {dI : Nat → Nat → Nat} {base : Nat} {cy : Nat → ClassId} {H0 : Heap} (hx : p.tables.exec = Jvm.exec) (hb : c.code = cX10_fresh) (hml : c.maxLocals = 3) (hown : s.vm.findClass RX10 = some m.cls) (hts : ∀ w ∈ TB, w.before args s = true) (hK : va_K (dC, dI) vwCl (tyL cy) s) (hcs : cells ≤ R.cells ∧ slots ≤ R.slots) {p1 : Int32} {v0 : VV} {j : Nat} (hj : p1 = nI j) (hj2 : j < 2) (hex : ∀ (v : VV) (H : Heap) (locs : List Loc) (ls : Array Slot), Fr (fun a => a = 848) v0 v → lv_has ls 3 [(0, .ref (base + 816)), (1, .int p1)] → va_P (dC, dI) vwCl (Wd base cy rf v 874) H → va_S (fun q => base ≤ q) H0 H locs → W p l e R s m args below meth c H locs cells slots Q (F0 m 134 ls [])) : ∀ (k : Nat) (i : Nat) (v : VV) (H : Heap) (locs : List Loc) (ls : Array Slot), i ≤ 128 → 128 + 1 ≤ i + k → Fr (fun a => a = 848) v0 v → lv_has ls 3 [(2, .int (nI i)), (0, .ref (base + 816)), (1, .int p1)] → va_P (dC, dI) vwCl (Wd base cy rf v 874) H → va_S (fun q => base ≤ q) H0 H locs → W p l e R s m args below meth c H locs cells slots Q (F0 m 108 ls []) := by
  intro k
  induction k with
  | zero =>
    intro i v H locs ls hi hk hF hl hP hS
    omega
  | succ k ih =>
    intro i v H locs ls hi hk hF hl hP hS
    refine lv_iload_n hx hb dX10_fresh_108 rfl (lv_at hl 0 rfl) ?_
    refine lv_sipush (v := 128) hx hb dX10_fresh_109 (by decide) ?_
    refine lv_icmp_ge (tgt := 134) hx hb dX10_fresh_112 (by decide) (fun c112 => ?_) (fun c112 => ?_)
    · exact hex _ _ _ _ hF (lv_sub hl [1, 2] rfl) hP hS
    · have hi2 : i < 128 := nI_nlit_le (n := 128) rfl c112 (by omega) (by decide)
      refine lv_aload_n hx hb dX10_fresh_115 rfl (lv_at hl 1 rfl) ?_
      have q1 := ch10_32 i10
      refine w_gR (C := RX10) (T := TX10) (N := 64) (ci := 10) hx hb hts in10 hown hK hP 32 i10.1 i10 rfl (by decide) q1.1 (hts _ mf_X10_104) dX10_fresh_116 ?_
      refine lv_sipush (v := 128) hx hb dX10_fresh_119 (by decide) ?_
      refine lv_iload_n hx hb dX10_fresh_122 rfl (lv_at hl 2 rfl) ?_
      refine lv_imul hx hb dX10_fresh_123 ?_
      refine lv_topi (fun x123 ex123 => ?_)
      refine lv_iload_n hx hb dX10_fresh_124 rfl (lv_at hl 0 rfl) ?_
      refine lv_iadd hx hb dX10_fresh_125 ?_
      refine lv_topi (fun x125 ex125 => ?_)
      refine lv_iconst (v := -1) hx hb dX10_fresh_126 (by decide) ?_
      refine w_is (N := 256) hx hb hK hP hS q1.2.1.1 (q1.2.1) (q1.2.2) (by rw [ex125, ex123, hj, show (128 : Int32) = nI 128 from rfl, pk_mul, nI_add]; exact vp_in_nI (by omega) (by decide)) dX10_fresh_127 (fun v2 H locs hv2 hP hz hS => ?_)
      obtain ⟨x128, ex128⟩ : ∃ y : Int32, y = (nI i) + 1 := ⟨_, rfl⟩
      refine lv_iinc (v := x128) (lv' := [(2, .int x128), (0, .ref (base + 816)), (1, .int p1)]) hx hb dX10_fresh_128 hl (k := 0) rfl (by rw [ex128]; first | rfl | (rw [show Int32.ofInt (-1) = (-1 : Int32) from by decide])) (by decide) rfl (fun ls hl => ?_)
      refine lv_goto (tgt := 108) hx hb dX10_fresh_131 (by decide) ?_
      exact ih (i + 1) v2 _ _ _ (by omega) (by omega) (by rw [hv2]; exact hF.up _ _ _ (by decide)) (by rw [← nI_1 i, ← ex128]; exact lv_sub hl [0, 1, 2] rfl) hP hS
set_option maxHeartbeats 4000000 in
set_option maxRecDepth 100000 in
/-- fresh(end) at the first connection -/
theorem k_fresh (l : Launch) (dC : Nat → ClassId) (dI : Nat → Nat → Nat) (base : Nat) (cy : Nat → ClassId) (v : VV) (p1 : Int32) (j : Nat) (hj : p1 = nI j) (hj2 : j < 2) (h0 : v 818 j = 0) : CV l yX10_fresh (.code yX10_fresh cX10_fresh 3 none :: TB) { frames := 0, cells := 0, slots := 0, locals := 0 } dC dI base cy [.ref (base + 816), .int p1] v (fun v' : VV => Fr (fun a => 816 < a) v v' ∧ v' 818 j = 1) := by
  refine Met.ofW (cc := cX10_fresh) (maxL := 3) (ret := none) (by decide) rfl ?_
  intro p e s m args below meth c s₁ B hml hv
  obtain ⟨rfl, hP, hK⟩ := hv
  have hx := B.exec
  have hb := B.bytes
  have hr := B.returns
  have hts0 := atoms_spec (ws := (.code yX10_fresh cX10_fresh 3 none :: TB)) B.pre
  have hts : ∀ w ∈ TB, w.before ([.ref (base + 816), .int p1]).toArray s = true := fun w h => hts0 w (List.mem_cons_of_mem _ h)
  have hown : s.vm.findClass RX10 = some m.cls := findClass_of_methodNamed B.named
  have hlocks := B.notSynchronized
  have hS : va_S (fun q => base ≤ q) s.heap s.heap [] := va_S.rf
  have hl := lv_entry ([.ref (base + 816), .int p1]) (n := 3) (Nat.le_of_ble_eq_true rfl)
  rw [lg_entry_eq]
  generalize (lg_sl ([.ref (base + 816), .int p1]) ++ List.replicate (3 - (lg_sl ([.ref (base + 816), .int p1])).length) Slot.unset).toArray = ls at hl ⊢
  have hl : lv_has ls 3 [(0, .ref (base + 816)), (1, .int p1)] := hl
  refine lv_aload_n hx hb dX10_fresh_0 rfl (lv_at hl 0 rfl) ?_
  have q1 := ch10_2 i10
  refine w_gR (C := RX10) (T := TX10) (N := 64) (ci := 10) hx hb hts in10 hown hK hP 2 i10.1 i10 rfl (by decide) q1.1 (hts _ mf_X10_13) dX10_fresh_1 ?_
  refine lv_iload_n hx hb dX10_fresh_4 rfl (lv_at hl 1 rfl) ?_
  refine lv_aload_n hx hb dX10_fresh_5 rfl (lv_at hl 0 rfl) ?_
  have q2 := ch10_2 i10
  refine w_gR (C := RX10) (T := TX10) (N := 64) (ci := 10) hx hb hts in10 hown hK hP 2 i10.1 i10 rfl (by decide) q2.1 (hts _ mf_X10_13) dX10_fresh_6 ?_
  refine lv_iload_n hx hb dX10_fresh_9 rfl (lv_at hl 1 rfl) ?_
  refine w_ia (N := 2) hx hb hK hP q2.2.1.1 (q2.2.1) (q2.2.2) (by rw [hj]; exact vp_in_nI hj2 (by decide)) dX10_fresh_10 ?_
  refine lv_topi (fun x10 ex10 => ?_)
  refine lv_ldc (v := 65535) hx hb hown (hts _ mk_X10_230) dX10_fresh_11 ?_
  refine lv_icmp_ne (tgt := 20) hx hb dX10_fresh_13 (by decide) (fun c13 => ?_) (fun c13 => ?_)
  · refine lv_aload_n hx hb dX10_fresh_20 rfl (lv_at hl 0 rfl) ?_
    have q3 := ch10_2 i10
    refine w_gR (C := RX10) (T := TX10) (N := 64) (ci := 10) hx hb hts in10 hown hK hP 2 i10.1 i10 rfl (by decide) q3.1 (hts _ mf_X10_13) dX10_fresh_21 ?_
    refine lv_iload_n hx hb dX10_fresh_24 rfl (lv_at hl 1 rfl) ?_
    refine w_ia (N := 2) hx hb hK hP q3.2.1.1 (q3.2.1) (q3.2.2) (by rw [hj]; exact vp_in_nI hj2 (by decide)) dX10_fresh_25 ?_
    refine lv_topi (fun x25 ex25 => ?_)
    refine lv_iconst (v := 1) hx hb dX10_fresh_26 (by decide) ?_
    refine lv_iadd hx hb dX10_fresh_27 ?_
    refine lv_topi (fun x27 ex27 => ?_)
    refine w_is (N := 2) hx hb hK hP hS q1.2.1.1 (q1.2.1) (q1.2.2) (by rw [hj]; exact vp_in_nI hj2 (by decide)) dX10_fresh_28 (fun v4 H locs hv4 hP hz hS => ?_)
    refine lv_aload_n hx hb dX10_fresh_29 rfl (lv_at hl 0 rfl) ?_
    have q5 := ch10_5 i10
    refine w_gR (C := RX10) (T := TX10) (N := 64) (ci := 10) hx hb hts in10 hown hK hP 5 i10.1 i10 rfl (by decide) q5.1 (hts _ mf_X10_23) dX10_fresh_30 ?_
    refine lv_iload_n hx hb dX10_fresh_33 rfl (lv_at hl 1 rfl) ?_
    refine lv_iconst (v := -1) hx hb dX10_fresh_34 (by decide) ?_
    refine w_is (N := 2) hx hb hK hP hS q5.2.1.1 (q5.2.1) (q5.2.2) (by rw [hj]; exact vp_in_nI hj2 (by decide)) dX10_fresh_35 (fun v6 H locs hv6 hP hz hS => ?_)
    refine lv_aload_n hx hb dX10_fresh_36 rfl (lv_at hl 0 rfl) ?_
    have q7 := ch10_14 i10
    refine w_gR (C := RX10) (T := TX10) (N := 64) (ci := 10) hx hb hts in10 hown hK hP 14 i10.1 i10 rfl (by decide) q7.1 (hts _ mf_X10_50) dX10_fresh_37 ?_
    refine lv_iload_n hx hb dX10_fresh_40 rfl (lv_at hl 1 rfl) ?_
    refine lv_iconst (v := 0) hx hb dX10_fresh_41 (by decide) ?_
    refine w_is (N := 2) hx hb hK hP hS q7.2.1.1 (q7.2.1) (q7.2.2) (by rw [hj]; exact vp_in_nI hj2 (by decide)) dX10_fresh_42 (fun v8 H locs hv8 hP hz hS => ?_)
    refine lv_aload_n hx hb dX10_fresh_43 rfl (lv_at hl 0 rfl) ?_
    have q9 := ch10_15 i10
    refine w_gR (C := RX10) (T := TX10) (N := 64) (ci := 10) hx hb hts in10 hown hK hP 15 i10.1 i10 rfl (by decide) q9.1 (hts _ mf_X10_53) dX10_fresh_44 ?_
    refine lv_iload_n hx hb dX10_fresh_47 rfl (lv_at hl 1 rfl) ?_
    refine lv_iconst (v := 0) hx hb dX10_fresh_48 (by decide) ?_
    refine w_is (N := 2) hx hb hK hP hS q9.2.1.1 (q9.2.1) (q9.2.2) (by rw [hj]; exact vp_in_nI hj2 (by decide)) dX10_fresh_49 (fun v10 H locs hv10 hP hz hS => ?_)
    refine lv_aload_n hx hb dX10_fresh_50 rfl (lv_at hl 0 rfl) ?_
    have q11 := ch10_22 i10
    refine w_gR (C := RX10) (T := TX10) (N := 64) (ci := 10) hx hb hts in10 hown hK hP 22 i10.1 i10 rfl (by decide) q11.1 (hts _ mf_X10_74) dX10_fresh_51 ?_
    refine lv_iload_n hx hb dX10_fresh_54 rfl (lv_at hl 1 rfl) ?_
    refine lv_iconst (v := 0) hx hb dX10_fresh_55 (by decide) ?_
    refine w_is (N := 2) hx hb hK hP hS q11.2.1.1 (q11.2.1) (q11.2.2) (by rw [hj]; exact vp_in_nI hj2 (by decide)) dX10_fresh_56 (fun v12 H locs hv12 hP hz hS => ?_)
    refine lv_aload_n hx hb dX10_fresh_57 rfl (lv_at hl 0 rfl) ?_
    have q13 := ch10_23 i10
    refine w_gR (C := RX10) (T := TX10) (N := 64) (ci := 10) hx hb hts in10 hown hK hP 23 i10.1 i10 rfl (by decide) q13.1 (hts _ mf_X10_77) dX10_fresh_58 ?_
    refine lv_iload_n hx hb dX10_fresh_61 rfl (lv_at hl 1 rfl) ?_
    refine lv_iconst (v := 0) hx hb dX10_fresh_62 (by decide) ?_
    refine w_is (N := 2) hx hb hK hP hS q13.2.1.1 (q13.2.1) (q13.2.2) (by rw [hj]; exact vp_in_nI hj2 (by decide)) dX10_fresh_63 (fun v14 H locs hv14 hP hz hS => ?_)
    refine lv_aload_n hx hb dX10_fresh_64 rfl (lv_at hl 0 rfl) ?_
    have q15 := ch10_24 i10
    refine w_gR (C := RX10) (T := TX10) (N := 64) (ci := 10) hx hb hts in10 hown hK hP 24 i10.1 i10 rfl (by decide) q15.1 (hts _ mf_X10_80) dX10_fresh_65 ?_
    refine lv_iload_n hx hb dX10_fresh_68 rfl (lv_at hl 1 rfl) ?_
    refine lv_iconst (v := 0) hx hb dX10_fresh_69 (by decide) ?_
    refine w_is (N := 2) hx hb hK hP hS q15.2.1.1 (q15.2.1) (q15.2.2) (by rw [hj]; exact vp_in_nI hj2 (by decide)) dX10_fresh_70 (fun v16 H locs hv16 hP hz hS => ?_)
    refine lv_aload_n hx hb dX10_fresh_71 rfl (lv_at hl 0 rfl) ?_
    have q17 := ch10_25 i10
    refine w_gR (C := RX10) (T := TX10) (N := 64) (ci := 10) hx hb hts in10 hown hK hP 25 i10.1 i10 rfl (by decide) q17.1 (hts _ mf_X10_83) dX10_fresh_72 ?_
    refine lv_iload_n hx hb dX10_fresh_75 rfl (lv_at hl 1 rfl) ?_
    refine lv_iconst (v := 0) hx hb dX10_fresh_76 (by decide) ?_
    refine w_is (N := 2) hx hb hK hP hS q17.2.1.1 (q17.2.1) (q17.2.2) (by rw [hj]; exact vp_in_nI hj2 (by decide)) dX10_fresh_77 (fun v18 H locs hv18 hP hz hS => ?_)
    refine lv_aload_n hx hb dX10_fresh_78 rfl (lv_at hl 0 rfl) ?_
    have q19 := ch10_27 i10
    refine w_gR (C := RX10) (T := TX10) (N := 64) (ci := 10) hx hb hts in10 hown hK hP 27 i10.1 i10 rfl (by decide) q19.1 (hts _ mf_X10_89) dX10_fresh_79 ?_
    refine lv_iload_n hx hb dX10_fresh_82 rfl (lv_at hl 1 rfl) ?_
    refine lv_iconst (v := 0) hx hb dX10_fresh_83 (by decide) ?_
    refine w_is (N := 2) hx hb hK hP hS q19.2.1.1 (q19.2.1) (q19.2.2) (by rw [hj]; exact vp_in_nI hj2 (by decide)) dX10_fresh_84 (fun v20 H locs hv20 hP hz hS => ?_)
    refine lv_aload_n hx hb dX10_fresh_85 rfl (lv_at hl 0 rfl) ?_
    have q21 := ch10_28 i10
    refine w_gR (C := RX10) (T := TX10) (N := 64) (ci := 10) hx hb hts in10 hown hK hP 28 i10.1 i10 rfl (by decide) q21.1 (hts _ mf_X10_92) dX10_fresh_86 ?_
    refine lv_iload_n hx hb dX10_fresh_89 rfl (lv_at hl 1 rfl) ?_
    refine lv_iconst (v := 0) hx hb dX10_fresh_90 (by decide) ?_
    refine w_is (N := 2) hx hb hK hP hS q21.2.1.1 (q21.2.1) (q21.2.2) (by rw [hj]; exact vp_in_nI hj2 (by decide)) dX10_fresh_91 (fun v22 H locs hv22 hP hz hS => ?_)
    refine lv_aload_n hx hb dX10_fresh_92 rfl (lv_at hl 0 rfl) ?_
    have q23 := ch10_30 i10
    refine w_gR (C := RX10) (T := TX10) (N := 64) (ci := 10) hx hb hts in10 hown hK hP 30 i10.1 i10 rfl (by decide) q23.1 (hts _ mf_X10_98) dX10_fresh_93 ?_
    refine lv_iload_n hx hb dX10_fresh_96 rfl (lv_at hl 1 rfl) ?_
    refine lv_iconst (v := 0) hx hb dX10_fresh_97 (by decide) ?_
    refine w_is (N := 2) hx hb hK hP hS q23.2.1.1 (q23.2.1) (q23.2.2) (by rw [hj]; exact vp_in_nI hj2 (by decide)) dX10_fresh_98 (fun v24 H locs hv24 hP hz hS => ?_)
    refine lv_aload_n hx hb dX10_fresh_99 rfl (lv_at hl 0 rfl) ?_
    have q25 := ch10_31 i10
    refine w_gR (C := RX10) (T := TX10) (N := 64) (ci := 10) hx hb hts in10 hown hK hP 31 i10.1 i10 rfl (by decide) q25.1 (hts _ mf_X10_101) dX10_fresh_100 ?_
    refine lv_iload_n hx hb dX10_fresh_103 rfl (lv_at hl 1 rfl) ?_
    refine lv_iconst (v := 0) hx hb dX10_fresh_104 (by decide) ?_
    refine w_is (N := 2) hx hb hK hP hS q25.2.1.1 (q25.2.1) (q25.2.2) (by rw [hj]; exact vp_in_nI hj2 (by decide)) dX10_fresh_105 (fun v26 H locs hv26 hP hz hS => ?_)
    refine lv_iconst (v := 0) hx hb dX10_fresh_106 (by decide) ?_
    refine lv_istore_n (lv' := [(2, .int 0), (0, .ref (base + 816)), (1, .int p1)]) hx hb dX10_fresh_107 rfl hl (by decide) rfl (fun ls hl => ?_)
    refine lpk_fresh hx hb hml hown hts hK ⟨Nat.zero_le _, Nat.zero_le _⟩ hj hj2 (fun w H locs ls hF hl hP hS => ?_) 129 0 v26 _ _ _ (by omega) (by omega) Fr.rf (lv_sub hl [0, 1, 2] rfl) hP hS
    refine lv_aload_n hx hb dX10_fresh_134 rfl (lv_at hl 0 rfl) ?_
    have q27 := ch10_35 i10
    refine w_gR (C := RX10) (T := TX10) (N := 64) (ci := 10) hx hb hts in10 hown hK hP 35 i10.1 i10 rfl (by decide) q27.1 (hts _ mf_X10_113) dX10_fresh_135 ?_
    refine lv_iload_n hx hb dX10_fresh_138 rfl (lv_at hl 1 rfl) ?_
    refine lv_iconst (v := 0) hx hb dX10_fresh_139 (by decide) ?_
    refine w_is (N := 2) hx hb hK hP hS q27.2.1.1 (q27.2.1) (q27.2.2) (by rw [hj]; exact vp_in_nI hj2 (by decide)) dX10_fresh_140 (fun v28 H locs hv28 hP hz hS => ?_)
    refine lv_aload_n hx hb dX10_fresh_141 rfl (lv_at hl 0 rfl) ?_
    have q29 := ch10_36 i10
    refine w_gR (C := RX10) (T := TX10) (N := 64) (ci := 10) hx hb hts in10 hown hK hP 36 i10.1 i10 rfl (by decide) q29.1 (hts _ mf_X10_116) dX10_fresh_142 ?_
    refine lv_iload_n hx hb dX10_fresh_145 rfl (lv_at hl 1 rfl) ?_
    refine lv_iconst (v := 0) hx hb dX10_fresh_146 (by decide) ?_
    refine w_is (N := 2) hx hb hK hP hS q29.2.1.1 (q29.2.1) (q29.2.2) (by rw [hj]; exact vp_in_nI hj2 (by decide)) dX10_fresh_147 (fun v30 H locs hv30 hP hz hS => ?_)
    refine lv_aload_n hx hb dX10_fresh_148 rfl (lv_at hl 0 rfl) ?_
    have q31 := ch10_38 i10
    refine w_gR (C := RX10) (T := TX10) (N := 64) (ci := 10) hx hb hts in10 hown hK hP 38 i10.1 i10 rfl (by decide) q31.1 (hts _ mf_X10_122) dX10_fresh_149 ?_
    refine lv_iload_n hx hb dX10_fresh_152 rfl (lv_at hl 1 rfl) ?_
    refine lv_iconst (v := 0) hx hb dX10_fresh_153 (by decide) ?_
    refine w_is (N := 2) hx hb hK hP hS q31.2.1.1 (q31.2.1) (q31.2.2) (by rw [hj]; exact vp_in_nI hj2 (by decide)) dX10_fresh_154 (fun v32 H locs hv32 hP hz hS => ?_)
    refine lv_aload_n hx hb dX10_fresh_155 rfl (lv_at hl 0 rfl) ?_
    have q33 := ch10_42 i10
    refine w_gR (C := RX10) (T := TX10) (N := 64) (ci := 10) hx hb hts in10 hown hK hP 42 i10.1 i10 rfl (by decide) q33.1 (hts _ mf_X10_134) dX10_fresh_156 ?_
    refine lv_iload_n hx hb dX10_fresh_159 rfl (lv_at hl 1 rfl) ?_
    refine lv_iconst (v := 0) hx hb dX10_fresh_160 (by decide) ?_
    refine w_is (N := 2) hx hb hK hP hS q33.2.1.1 (q33.2.1) (q33.2.2) (by rw [hj]; exact vp_in_nI hj2 (by decide)) dX10_fresh_161 (fun v34 H locs hv34 hP hz hS => ?_)
    refine lv_aload_n hx hb dX10_fresh_162 rfl (lv_at hl 0 rfl) ?_
    have q35 := ch10_45 i10
    refine w_gR (C := RX10) (T := TX10) (N := 64) (ci := 10) hx hb hts in10 hown hK hP 45 i10.1 i10 rfl (by decide) q35.1 (hts _ mf_X10_143) dX10_fresh_163 ?_
    refine lv_iload_n hx hb dX10_fresh_166 rfl (lv_at hl 1 rfl) ?_
    refine lv_iconst (v := 0) hx hb dX10_fresh_167 (by decide) ?_
    refine w_is (N := 2) hx hb hK hP hS q35.2.1.1 (q35.2.1) (q35.2.2) (by rw [hj]; exact vp_in_nI hj2 (by decide)) dX10_fresh_168 (fun v36 H locs hv36 hP hz hS => ?_)
    refine lv_aload_n hx hb dX10_fresh_169 rfl (lv_at hl 0 rfl) ?_
    have q37 := ch10_3 i10
    refine w_gR (C := RX10) (T := TX10) (N := 64) (ci := 10) hx hb hts in10 hown hK hP 3 i10.1 i10 rfl (by decide) q37.1 (hts _ mf_X10_16) dX10_fresh_170 ?_
    refine lv_iload_n hx hb dX10_fresh_173 rfl (lv_at hl 1 rfl) ?_
    refine lv_iconst (v := 0) hx hb dX10_fresh_174 (by decide) ?_
    refine w_is (N := 2) hx hb hK hP hS q37.2.1.1 (q37.2.1) (q37.2.2) (by rw [hj]; exact vp_in_nI hj2 (by decide)) dX10_fresh_175 (fun v38 H locs hv38 hP hz hS => ?_)
    refine lv_aload_n hx hb dX10_fresh_176 rfl (lv_at hl 0 rfl) ?_
    have q39 := ch10_8 i10
    refine w_gR (C := RX10) (T := TX10) (N := 64) (ci := 10) hx hb hts in10 hown hK hP 8 i10.1 i10 rfl (by decide) q39.1 (hts _ mf_X10_32) dX10_fresh_177 ?_
    refine lv_iload_n hx hb dX10_fresh_180 rfl (lv_at hl 1 rfl) ?_
    refine lv_aload_n hx hb dX10_fresh_181 rfl (lv_at hl 0 rfl) ?_
    refine w_gI (C := RX10) (T := TX10) (N := 64) (ci := 10) hx hb hts in10 hown hK hP 0 i10.1 i10 rfl (by decide) (hts _ mf_X10_198) dX10_fresh_182 ?_
    refine lv_topi (fun x182 ex182 => ?_)
    refine w_is (N := 2) hx hb hK hP hS q39.2.1.1 (q39.2.1) (q39.2.2) (by rw [hj]; exact vp_in_nI hj2 (by decide)) dX10_fresh_185 (fun v40 H locs hv40 hP hz hS => ?_)
    exact W.vret hx hb hr (fun t ht hW => ⟨⟨v40, rfl, by
        have e27 : x27 = 1 := by rw [ex27, ex25, hj, nI_clamp (by omega), h0]; rfl
        have f1 : Fr (fun a => 816 < a) v v26 := by
          subst hv26 hv24 hv22 hv20 hv18 hv16 hv14 hv12 hv10 hv8 hv6 hv4
          repeat (first | exact Fr.rf | refine Fr.up ?_ _ _ _ (by decide))
        have f2 : v26 818 j = 1 := by
          subst hv26 hv24 hv22 hv20 hv18 hv16 hv14 hv12 hv10 hv8 hv6 hv4
          rw [up2_o _ _ _ _ _ (by decide), up2_o _ _ _ _ _ (by decide), up2_o _ _ _ _ _ (by decide), up2_o _ _ _ _ _ (by decide), up2_o _ _ _ _ _ (by decide), up2_o _ _ _ _ _ (by decide), up2_o _ _ _ _ _ (by decide), up2_o _ _ _ _ _ (by decide), up2_o _ _ _ _ _ (by decide), up2_o _ _ _ _ _ (by decide), up2_o _ _ _ _ _ (by decide), hj, nI_clamp (by omega), up2_s, e27]
        have f3 : Fr (fun a => 816 < a ∧ a ≠ 818) v26 v40 := by
          refine Fr.tr (hF.w (fun a h => by omega)) ?_
          subst hv40 hv38 hv36 hv34 hv32 hv30 hv28
          repeat (first | exact Fr.rf | refine Fr.up ?_ _ _ _ (by decide))
        exact ⟨f1.tr (f3.w (fun a h => h.1)), by rw [f3 818 (by decide)]; exact f2⟩, by rw [ht]; exact hP, va_K.moved hW.alike hK⟩, hS.F ht⟩) hS.2.2 dX10_fresh_186
  · exact absurd c13 (by rw [ex10, hj, nI_clamp (by omega), h0]; decide)
set_option maxHeartbeats 4000000 in
set_option maxRecDepth 100000 in
/-- call(end) on a new object -/
theorem k_call (l : Launch) (dC : Nat → ClassId) (dI : Nat → Nat → Nat) (base : Nat) (cy : Nat → ClassId) (v : VV) (hm : Fm v) (p1 : Int32) : CI l yX10_call (.code yX10_call cX10_call 2 (some .int) :: TB) { frames := 3, cells := 0, slots := 0, locals := 75 } dC dI base cy [.ref (base + 816), .int p1] v (fun (x : Int32) (_ : VV) => x = rE p1 1) := by
  refine Met.ofW (cc := cX10_call) (maxL := 2) (ret := (some .int)) (by decide) rfl ?_
  intro p e s m args below meth c s₁ B hml hv
  obtain ⟨rfl, hP, hK⟩ := hv
  have hx := B.exec
  have hb := B.bytes
  have hr := B.returns
  have hts0 := atoms_spec (ws := (.code yX10_call cX10_call 2 (some .int) :: TB)) B.pre
  have hts : ∀ w ∈ TB, w.before ([.ref (base + 816), .int p1]).toArray s = true := fun w h => hts0 w (List.mem_cons_of_mem _ h)
  have hown : s.vm.findClass RX10 = some m.cls := findClass_of_methodNamed B.named
  have hlocks := B.notSynchronized
  have hS : va_S (fun q => base ≤ q) s.heap s.heap [] := va_S.rf
  have hl := lv_entry ([.ref (base + 816), .int p1]) (n := 2) (Nat.le_of_ble_eq_true rfl)
  rw [lg_entry_eq]
  generalize (lg_sl ([.ref (base + 816), .int p1]) ++ List.replicate (2 - (lg_sl ([.ref (base + 816), .int p1])).length) Slot.unset).toArray = ls at hl ⊢
  have hl : lv_has ls 2 [(0, .ref (base + 816)), (1, .int p1)] := hl
  refine lv_iload_n hx hb dX10_call_0 rfl (lv_at hl 1 rfl) ?_
  refine kS_I (As := [.int p1]) (rest := []) ⟨hx, hb, hml, hown, hts⟩ (k_isEnd l dC dI base cy v p1) (cwS 1 hts (gS ml_X10_231 mt_X10_isEnd mn_X10 mo_X10_isEnd) rfl rfl rfl (by decide +kernel) ⟨by decide, by decide⟩) hK hP hS rfl hl.1 rfl (Nat.le_of_ble_eq_true rfl) dX10_call_1 ⟨Nat.zero_le _, Nat.zero_le _⟩ (fun x1 v1 H locs hv1 hP hS => ?_)
  rw [hv1.1] at hP
  have ex1 := hv1.2
  refine lv_if_ne (tgt := 9) hx hb dX10_call_4 (by decide) (fun c4 => ?_) (fun c4 => ?_)
  · have hp : p1 = 0 ∨ p1 = 1 := by
      by_cases q : p1 = 0 ∨ p1 = 1
      · exact q
      · rw [ex1, if_neg q] at c4; exact absurd rfl c4
    obtain ⟨j, hj2, hj⟩ := e01 hp
    refine lv_aload_n hx hb dX10_call_9 rfl (lv_at hl 0 rfl) ?_
    have q2 := ch10_1 i10
    refine w_gR (C := RX10) (T := TX10) (N := 64) (ci := 10) hx hb hts in10 hown hK hP 1 i10.1 i10 rfl (by decide) q2.1 (hts _ mf_X10_7) dX10_call_10 ?_
    refine lv_iload_n hx hb dX10_call_13 rfl (lv_at hl 1 rfl) ?_
    refine w_ia (N := 2) hx hb hK hP q2.2.1.1 (q2.2.1) (q2.2.2) (by rw [hj]; exact vp_in_nI hj2 (by decide)) dX10_call_14 ?_
    refine lv_topi (fun x14 ex14 => ?_)
    refine lv_if_eq (tgt := 21) hx hb dX10_call_15 (by decide) (fun c15 => ?_) (fun c15 => ?_)
    · refine lv_aload_n hx hb dX10_call_21 rfl (lv_at hl 0 rfl) ?_
      refine lv_iload_n hx hb dX10_call_22 rfl (lv_at hl 1 rfl) ?_
      refine k_V (As := [.int p1]) (rest := []) ⟨hx, hb, hml, hown, hts⟩ (k_fresh l dC dI base cy v p1 j hj hj2 (hm.z (by decide) _)) (cwV 1 hts (gV ml_X10_235 mi_X10_fresh mx_X10_fresh mn_X10 mo_X10_fresh) rfl rfl rfl (by decide +kernel) ⟨by decide, by decide⟩) hK hP hS i10 (by decide) rfl rfl hl.1 rfl (Nat.le_of_ble_eq_true rfl) dX10_call_23 ⟨Nat.zero_le _, Nat.zero_le _⟩ (fun v3 H locs hv3 hP hS => ?_)
      have g1 := hv3
      refine lv_aload_n hx hb dX10_call_26 rfl (lv_at hl 0 rfl) ?_
      have q4 := ch10_1 i10
      refine w_gR (C := RX10) (T := TX10) (N := 64) (ci := 10) hx hb hts in10 hown hK hP 1 i10.1 i10 rfl (by decide) q4.1 (hts _ mf_X10_7) dX10_call_27 ?_
      refine lv_iload_n hx hb dX10_call_30 rfl (lv_at hl 1 rfl) ?_
      refine lv_iconst (v := 1) hx hb dX10_call_31 (by decide) ?_
      refine w_is (N := 2) hx hb hK hP hS q4.2.1.1 (q4.2.1) (q4.2.2) (by rw [hj]; exact vp_in_nI hj2 (by decide)) dX10_call_32 (fun v5 H locs hv5 hP hz hS => ?_)
      refine lv_aload_n hx hb dX10_call_33 rfl (lv_at hl 0 rfl) ?_
      have q6 := ch10_4 i10
      refine w_gR (C := RX10) (T := TX10) (N := 64) (ci := 10) hx hb hts in10 hown hK hP 4 i10.1 i10 rfl (by decide) q6.1 (hts _ mf_X10_19) dX10_call_34 ?_
      refine lv_iload_n hx hb dX10_call_37 rfl (lv_at hl 1 rfl) ?_
      refine lv_iconst (v := 0) hx hb dX10_call_38 (by decide) ?_
      refine w_zs (N := 2) hx hb hK hP hS q6.2.1.1 (q6.2.1) (q6.2.2) (by rw [hj]; exact vp_in_nI hj2 (by decide)) dX10_call_39 (fun v7 H locs hv7 hP hz hS => ?_)
      refine lv_aload_n hx hb dX10_call_40 rfl (lv_at hl 0 rfl) ?_
      refine lv_iload_n hx hb dX10_call_41 rfl (lv_at hl 1 rfl) ?_
      refine lv_sipush (v := 230) hx hb dX10_call_42 (by decide) ?_
      refine lv_iconst (v := 0) hx hb dX10_call_45 (by decide) ?_
      refine lv_aload_n hx hb dX10_call_46 rfl (lv_at hl 0 rfl) ?_
      have q8 := ch10_2 i10
      refine w_gR (C := RX10) (T := TX10) (N := 64) (ci := 10) hx hb hts in10 hown hK hP 2 i10.1 i10 rfl (by decide) q8.1 (hts _ mf_X10_13) dX10_call_47 ?_
      refine lv_iload_n hx hb dX10_call_50 rfl (lv_at hl 1 rfl) ?_
      refine w_ia (N := 2) hx hb hK hP q8.2.1.1 (q8.2.1) (q8.2.2) (by rw [hj]; exact vp_in_nI hj2 (by decide)) dX10_call_51 ?_
      refine lv_topi (fun x51 ex51 => ?_)
      refine lv_bipush (v := 64) hx hb dX10_call_52 (by decide) ?_
      refine k_V (As := [.int p1, .int 230, .int 0, .int x51, .int 64]) (rest := []) ⟨hx, hb, hml, hown, hts⟩ (k_sendCode l dC dI base cy v7 p1 230 0 x51 64 j hj hj2 (by decide) (by subst hv7 hv5; rw [up2_o _ _ _ _ _ (by decide), up2_o _ _ _ _ _ (by decide), g1.1 816 (by decide)]; exact (hm.z (by decide) _))) (cwV 5 hts (gV ml_X10_238 mi_X10_sendCode mx_X10_sendCode mn_X10 mo_X10_sendCode) rfl rfl rfl (by decide +kernel) ⟨by decide, by decide⟩) hK hP hS i10 (by decide) rfl rfl hl.1 rfl (Nat.le_of_ble_eq_true rfl) dX10_call_54 ⟨Nat.zero_le _, Nat.zero_le _⟩ (fun v9 H locs hv9 hP hS => ?_)
      have g2 := hv9
      refine lv_aload_n hx hb dX10_call_57 rfl (lv_at hl 0 rfl) ?_
      refine lv_iload_n hx hb dX10_call_58 rfl (lv_at hl 1 rfl) ?_
      refine k_V (As := [.int p1]) (rest := []) ⟨hx, hb, hml, hown, hts⟩ (k_wait l dC dI base cy v9 p1 j hj hj2 11 g2.2 (by decide)) (cwV 1 hts (gV ml_X10_242 mi_X10_wait mx_X10_wait mn_X10 mo_X10_wait) rfl rfl rfl (by decide +kernel) ⟨by decide, by decide⟩) hK hP hS i10 (by decide) rfl rfl hl.1 rfl (Nat.le_of_ble_eq_true rfl) dX10_call_59 ⟨Nat.zero_le _, Nat.zero_le _⟩ (fun v10 H locs hv10 hP hS => ?_)
      have g3 := hv10
      refine lv_aload_n hx hb dX10_call_62 rfl (lv_at hl 0 rfl) ?_
      have q11 := ch10_2 i10
      refine w_gR (C := RX10) (T := TX10) (N := 64) (ci := 10) hx hb hts in10 hown hK hP 2 i10.1 i10 rfl (by decide) q11.1 (hts _ mf_X10_13) dX10_call_63 ?_
      refine lv_iload_n hx hb dX10_call_66 rfl (lv_at hl 1 rfl) ?_
      refine w_ia (N := 2) hx hb hK hP q11.2.1.1 (q11.2.1) (q11.2.2) (by rw [hj]; exact vp_in_nI hj2 (by decide)) dX10_call_67 ?_
      refine lv_topi (fun x67 ex67 => ?_)
      exact W.iret (v := x67) hx hb hr (fun t ht hW => ⟨⟨x67, v10, rfl, by
          rw [rE_y hp, ex67, hj, nI_clamp (by omega), g3 818 (by decide), g2.1 818 (by decide)]
          subst hv7 hv5
          rw [up2_o _ _ _ _ _ (by decide), up2_o _ _ _ _ _ (by decide)]
          exact g1.2, by rw [ht]; exact hP, va_K.moved hW.alike hK⟩, hS.F ht⟩) hS.2.2 dX10_call_68
    · exact absurd (by rw [ex14]; exact (hm.z (by decide) _)) c15
  · have hp : ¬ (p1 = 0 ∨ p1 = 1) := by
      intro q
      rw [ex1, if_pos q] at c4
      exact absurd c4 (by decide)
    refine lv_iconst (v := -1) hx hb dX10_call_7 (by decide) ?_
    exact W.iret (v := (-1)) hx hb hr (fun t ht hW => ⟨⟨(-1), v, rfl, (rE_n hp).symm, by rw [ht]; exact hP, va_K.moved hW.alike hK⟩, hS.F ht⟩) hS.2.2 dX10_call_8
set_option maxHeartbeats 4000000 in
set_option maxRecDepth 100000 in
/-- end(end) on a new object -/
theorem k_end (l : Launch) (dC : Nat → ClassId) (dI : Nat → Nat → Nat) (base : Nat) (cy : Nat → ClassId) (v : VV) (hm : Fm v) (p1 : Int32) : CI l yX10_end (.code yX10_end cX10_end 2 (some .int) :: TB) { frames := 1, cells := 0, slots := 0, locals := 21 } dC dI base cy [.ref (base + 816), .int p1] v (fun (x : Int32) (_ : VV) => x = rE p1 (-2)) := by
  refine Met.ofW (cc := cX10_end) (maxL := 2) (ret := (some .int)) (by decide) rfl ?_
  intro p e s m args below meth c s₁ B hml hv
  obtain ⟨rfl, hP, hK⟩ := hv
  have hx := B.exec
  have hb := B.bytes
  have hr := B.returns
  have hts0 := atoms_spec (ws := (.code yX10_end cX10_end 2 (some .int) :: TB)) B.pre
  have hts : ∀ w ∈ TB, w.before ([.ref (base + 816), .int p1]).toArray s = true := fun w h => hts0 w (List.mem_cons_of_mem _ h)
  have hown : s.vm.findClass RX10 = some m.cls := findClass_of_methodNamed B.named
  have hlocks := B.notSynchronized
  have hS : va_S (fun q => base ≤ q) s.heap s.heap [] := va_S.rf
  have hl := lv_entry ([.ref (base + 816), .int p1]) (n := 2) (Nat.le_of_ble_eq_true rfl)
  rw [lg_entry_eq]
  generalize (lg_sl ([.ref (base + 816), .int p1]) ++ List.replicate (2 - (lg_sl ([.ref (base + 816), .int p1])).length) Slot.unset).toArray = ls at hl ⊢
  have hl : lv_has ls 2 [(0, .ref (base + 816)), (1, .int p1)] := hl
  refine lv_iload_n hx hb dX10_end_0 rfl (lv_at hl 1 rfl) ?_
  refine kS_I (As := [.int p1]) (rest := []) ⟨hx, hb, hml, hown, hts⟩ (k_isEnd l dC dI base cy v p1) (cwS 1 hts (gS ml_X10_231 mt_X10_isEnd mn_X10 mo_X10_isEnd) rfl rfl rfl (by decide +kernel) ⟨by decide, by decide⟩) hK hP hS rfl hl.1 rfl (Nat.le_of_ble_eq_true rfl) dX10_end_1 ⟨Nat.zero_le _, Nat.zero_le _⟩ (fun x1 v1 H locs hv1 hP hS => ?_)
  rw [hv1.1] at hP
  have ex1 := hv1.2
  refine lv_if_ne (tgt := 9) hx hb dX10_end_4 (by decide) (fun c4 => ?_) (fun c4 => ?_)
  · have hp : p1 = 0 ∨ p1 = 1 := by
      by_cases q : p1 = 0 ∨ p1 = 1
      · exact q
      · rw [ex1, if_neg q] at c4; exact absurd rfl c4
    obtain ⟨j, hj2, hj⟩ := e01 hp
    refine lv_aload_n hx hb dX10_end_9 rfl (lv_at hl 0 rfl) ?_
    have q2 := ch10_1 i10
    refine w_gR (C := RX10) (T := TX10) (N := 64) (ci := 10) hx hb hts in10 hown hK hP 1 i10.1 i10 rfl (by decide) q2.1 (hts _ mf_X10_7) dX10_end_10 ?_
    refine lv_iload_n hx hb dX10_end_13 rfl (lv_at hl 1 rfl) ?_
    refine w_ia (N := 2) hx hb hK hP q2.2.1.1 (q2.2.1) (q2.2.2) (by rw [hj]; exact vp_in_nI hj2 (by decide)) dX10_end_14 ?_
    refine lv_topi (fun x14 ex14 => ?_)
    refine lv_iconst (v := 2) hx hb dX10_end_15 (by decide) ?_
    refine lv_icmp_eq (tgt := 32) hx hb dX10_end_16 (by decide) (fun c16 => ?_) (fun c16 => ?_)
    · exact absurd c16 (by rw [ex14, hm.z (by decide)]; decide)
    · refine lv_aload_n hx hb dX10_end_19 rfl (lv_at hl 0 rfl) ?_
      have q3 := ch10_1 i10
      refine w_gR (C := RX10) (T := TX10) (N := 64) (ci := 10) hx hb hts in10 hown hK hP 1 i10.1 i10 rfl (by decide) q3.1 (hts _ mf_X10_7) dX10_end_20 ?_
      refine lv_iload_n hx hb dX10_end_23 rfl (lv_at hl 1 rfl) ?_
      refine w_ia (N := 2) hx hb hK hP q3.2.1.1 (q3.2.1) (q3.2.2) (by rw [hj]; exact vp_in_nI hj2 (by decide)) dX10_end_24 ?_
      refine lv_topi (fun x24 ex24 => ?_)
      refine lv_iconst (v := 1) hx hb dX10_end_25 (by decide) ?_
      refine lv_icmp_eq (tgt := 32) hx hb dX10_end_26 (by decide) (fun c26 => ?_) (fun c26 => ?_)
      · exact absurd c26 (by rw [ex24, hm.z (by decide)]; decide)
      · refine lv_bipush (v := -2) hx hb dX10_end_29 (by decide) ?_
        exact W.iret (v := (-2)) hx hb hr (fun t ht hW => ⟨⟨(-2), v, rfl, (rE_y hp).symm, by rw [ht]; exact hP, va_K.moved hW.alike hK⟩, hS.F ht⟩) hS.2.2 dX10_end_31
  · have hp : ¬ (p1 = 0 ∨ p1 = 1) := by
      intro q
      rw [ex1, if_pos q] at c4
      exact absurd c4 (by decide)
    refine lv_iconst (v := -1) hx hb dX10_end_7 (by decide) ?_
    exact W.iret (v := (-1)) hx hb hr (fun t ht hW => ⟨⟨(-1), v, rfl, (rE_n hp).symm, by rw [ht]; exact hP, va_K.moved hW.alike hK⟩, hS.F ht⟩) hS.2.2 dX10_end_8
set_option maxHeartbeats 4000000 in
set_option maxRecDepth 100000 in
/-- send(end) on a new object -/
theorem k_send (l : Launch) (dC : Nat → ClassId) (dI : Nat → Nat → Nat) (base : Nat) (cy : Nat → ClassId) (v : VV) (hm : Fm v) (p1 : Int32) : CI l yX10_send (.code yX10_send cX10_send 7 (some .int) :: TB) { frames := 1, cells := 0, slots := 0, locals := 21 } dC dI base cy [.ref (base + 816), .int p1] v (fun (x : Int32) (_ : VV) => x = rE p1 (-2)) := by
  refine Met.ofW (cc := cX10_send) (maxL := 7) (ret := (some .int)) (by decide) rfl ?_
  intro p e s m args below meth c s₁ B hml hv
  obtain ⟨rfl, hP, hK⟩ := hv
  have hx := B.exec
  have hb := B.bytes
  have hr := B.returns
  have hts0 := atoms_spec (ws := (.code yX10_send cX10_send 7 (some .int) :: TB)) B.pre
  have hts : ∀ w ∈ TB, w.before ([.ref (base + 816), .int p1]).toArray s = true := fun w h => hts0 w (List.mem_cons_of_mem _ h)
  have hown : s.vm.findClass RX10 = some m.cls := findClass_of_methodNamed B.named
  have hlocks := B.notSynchronized
  have hS : va_S (fun q => base ≤ q) s.heap s.heap [] := va_S.rf
  have hl := lv_entry ([.ref (base + 816), .int p1]) (n := 7) (Nat.le_of_ble_eq_true rfl)
  rw [lg_entry_eq]
  generalize (lg_sl ([.ref (base + 816), .int p1]) ++ List.replicate (7 - (lg_sl ([.ref (base + 816), .int p1])).length) Slot.unset).toArray = ls at hl ⊢
  have hl : lv_has ls 7 [(0, .ref (base + 816)), (1, .int p1)] := hl
  refine lv_iload_n hx hb dX10_send_0 rfl (lv_at hl 1 rfl) ?_
  refine kS_I (As := [.int p1]) (rest := []) ⟨hx, hb, hml, hown, hts⟩ (k_isEnd l dC dI base cy v p1) (cwS 1 hts (gS ml_X10_231 mt_X10_isEnd mn_X10 mo_X10_isEnd) rfl rfl rfl (by decide +kernel) ⟨by decide, by decide⟩) hK hP hS rfl hl.1 rfl (Nat.le_of_ble_eq_true rfl) dX10_send_1 ⟨Nat.zero_le _, Nat.zero_le _⟩ (fun x1 v1 H locs hv1 hP hS => ?_)
  rw [hv1.1] at hP
  have ex1 := hv1.2
  refine lv_if_ne (tgt := 9) hx hb dX10_send_4 (by decide) (fun c4 => ?_) (fun c4 => ?_)
  · have hp : p1 = 0 ∨ p1 = 1 := by
      by_cases q : p1 = 0 ∨ p1 = 1
      · exact q
      · rw [ex1, if_neg q] at c4; exact absurd rfl c4
    obtain ⟨j, hj2, hj⟩ := e01 hp
    refine lv_aload_n hx hb dX10_send_9 rfl (lv_at hl 0 rfl) ?_
    have q2 := ch10_1 i10
    refine w_gR (C := RX10) (T := TX10) (N := 64) (ci := 10) hx hb hts in10 hown hK hP 1 i10.1 i10 rfl (by decide) q2.1 (hts _ mf_X10_7) dX10_send_10 ?_
    refine lv_iload_n hx hb dX10_send_13 rfl (lv_at hl 1 rfl) ?_
    refine w_ia (N := 2) hx hb hK hP q2.2.1.1 (q2.2.1) (q2.2.2) (by rw [hj]; exact vp_in_nI hj2 (by decide)) dX10_send_14 ?_
    refine lv_topi (fun x14 ex14 => ?_)
    refine lv_iconst (v := 2) hx hb dX10_send_15 (by decide) ?_
    refine lv_icmp_eq (tgt := 22) hx hb dX10_send_16 (by decide) (fun c16 => ?_) (fun c16 => ?_)
    · exact absurd c16 (by rw [ex14, hm.z (by decide)]; decide)
    · refine lv_bipush (v := -2) hx hb dX10_send_19 (by decide) ?_
      exact W.iret (v := (-2)) hx hb hr (fun t ht hW => ⟨⟨(-2), v, rfl, (rE_y hp).symm, by rw [ht]; exact hP, va_K.moved hW.alike hK⟩, hS.F ht⟩) hS.2.2 dX10_send_21
  · have hp : ¬ (p1 = 0 ∨ p1 = 1) := by
      intro q
      rw [ex1, if_pos q] at c4
      exact absurd c4 (by decide)
    refine lv_iconst (v := -1) hx hb dX10_send_7 (by decide) ?_
    exact W.iret (v := (-1)) hx hb hr (fun t ht hW => ⟨⟨(-1), v, rfl, (rE_n hp).symm, by rw [ht]; exact hP, va_K.moved hW.alike hK⟩, hS.F ht⟩) hS.2.2 dX10_send_8
set_option maxHeartbeats 4000000 in
set_option maxRecDepth 100000 in
/-- take(end) on a new object -/
theorem k_take (l : Launch) (dC : Nat → ClassId) (dI : Nat → Nat → Nat) (base : Nat) (cy : Nat → ClassId) (v : VV) (hm : Fm v) (p1 : Int32) : CI l yX10_take (.code yX10_take cX10_take 6 (some .int) :: TB) { frames := 1, cells := 0, slots := 0, locals := 21 } dC dI base cy [.ref (base + 816), .int p1] v (fun (x : Int32) (_ : VV) => x = rE p1 (-2)) := by
  refine Met.ofW (cc := cX10_take) (maxL := 6) (ret := (some .int)) (by decide) rfl ?_
  intro p e s m args below meth c s₁ B hml hv
  obtain ⟨rfl, hP, hK⟩ := hv
  have hx := B.exec
  have hb := B.bytes
  have hr := B.returns
  have hts0 := atoms_spec (ws := (.code yX10_take cX10_take 6 (some .int) :: TB)) B.pre
  have hts : ∀ w ∈ TB, w.before ([.ref (base + 816), .int p1]).toArray s = true := fun w h => hts0 w (List.mem_cons_of_mem _ h)
  have hown : s.vm.findClass RX10 = some m.cls := findClass_of_methodNamed B.named
  have hlocks := B.notSynchronized
  have hS : va_S (fun q => base ≤ q) s.heap s.heap [] := va_S.rf
  have hl := lv_entry ([.ref (base + 816), .int p1]) (n := 6) (Nat.le_of_ble_eq_true rfl)
  rw [lg_entry_eq]
  generalize (lg_sl ([.ref (base + 816), .int p1]) ++ List.replicate (6 - (lg_sl ([.ref (base + 816), .int p1])).length) Slot.unset).toArray = ls at hl ⊢
  have hl : lv_has ls 6 [(0, .ref (base + 816)), (1, .int p1)] := hl
  refine lv_iload_n hx hb dX10_take_0 rfl (lv_at hl 1 rfl) ?_
  refine kS_I (As := [.int p1]) (rest := []) ⟨hx, hb, hml, hown, hts⟩ (k_isEnd l dC dI base cy v p1) (cwS 1 hts (gS ml_X10_231 mt_X10_isEnd mn_X10 mo_X10_isEnd) rfl rfl rfl (by decide +kernel) ⟨by decide, by decide⟩) hK hP hS rfl hl.1 rfl (Nat.le_of_ble_eq_true rfl) dX10_take_1 ⟨Nat.zero_le _, Nat.zero_le _⟩ (fun x1 v1 H locs hv1 hP hS => ?_)
  rw [hv1.1] at hP
  have ex1 := hv1.2
  refine lv_if_ne (tgt := 9) hx hb dX10_take_4 (by decide) (fun c4 => ?_) (fun c4 => ?_)
  · have hp : p1 = 0 ∨ p1 = 1 := by
      by_cases q : p1 = 0 ∨ p1 = 1
      · exact q
      · rw [ex1, if_neg q] at c4; exact absurd rfl c4
    obtain ⟨j, hj2, hj⟩ := e01 hp
    refine lv_aload_n hx hb dX10_take_9 rfl (lv_at hl 0 rfl) ?_
    have q2 := ch10_38 i10
    refine w_gR (C := RX10) (T := TX10) (N := 64) (ci := 10) hx hb hts in10 hown hK hP 38 i10.1 i10 rfl (by decide) q2.1 (hts _ mf_X10_122) dX10_take_10 ?_
    refine lv_iload_n hx hb dX10_take_13 rfl (lv_at hl 1 rfl) ?_
    refine w_ia (N := 2) hx hb hK hP q2.2.1.1 (q2.2.1) (q2.2.2) (by rw [hj]; exact vp_in_nI hj2 (by decide)) dX10_take_14 ?_
    refine lv_topi (fun x14 ex14 => ?_)
    refine lv_if_ne (tgt := 21) hx hb dX10_take_15 (by decide) (fun c15 => ?_) (fun c15 => ?_)
    · exact absurd (by rw [ex14]; exact (hm.z (by decide) _)) c15
    · refine lv_bipush (v := -2) hx hb dX10_take_18 (by decide) ?_
      exact W.iret (v := (-2)) hx hb hr (fun t ht hW => ⟨⟨(-2), v, rfl, (rE_y hp).symm, by rw [ht]; exact hP, va_K.moved hW.alike hK⟩, hS.F ht⟩) hS.2.2 dX10_take_20
  · have hp : ¬ (p1 = 0 ∨ p1 = 1) := by
      intro q
      rw [ex1, if_pos q] at c4
      exact absurd c4 (by decide)
    refine lv_iconst (v := -1) hx hb dX10_take_7 (by decide) ?_
    exact W.iret (v := (-1)) hx hb hr (fun t ht hW => ⟨⟨(-1), v, rfl, (rE_n hp).symm, by rw [ht]; exact hP, va_K.moved hW.alike hK⟩, hS.F ht⟩) hS.2.2 dX10_take_8
set_option maxHeartbeats 4000000 in
set_option maxRecDepth 100000 in
/-- urgent(end) on a new object -/
theorem k_urgent (l : Launch) (dC : Nat → ClassId) (dI : Nat → Nat → Nat) (base : Nat) (cy : Nat → ClassId) (v : VV) (hm : Fm v) (p1 : Int32) : CI l yX10_urgent (.code yX10_urgent cX10_urgent 4 (some .int) :: TB) { frames := 1, cells := 0, slots := 0, locals := 21 } dC dI base cy [.ref (base + 816), .int p1] v (fun (x : Int32) (_ : VV) => x = rE p1 (-2)) := by
  refine Met.ofW (cc := cX10_urgent) (maxL := 4) (ret := (some .int)) (by decide) rfl ?_
  intro p e s m args below meth c s₁ B hml hv
  obtain ⟨rfl, hP, hK⟩ := hv
  have hx := B.exec
  have hb := B.bytes
  have hr := B.returns
  have hts0 := atoms_spec (ws := (.code yX10_urgent cX10_urgent 4 (some .int) :: TB)) B.pre
  have hts : ∀ w ∈ TB, w.before ([.ref (base + 816), .int p1]).toArray s = true := fun w h => hts0 w (List.mem_cons_of_mem _ h)
  have hown : s.vm.findClass RX10 = some m.cls := findClass_of_methodNamed B.named
  have hlocks := B.notSynchronized
  have hS : va_S (fun q => base ≤ q) s.heap s.heap [] := va_S.rf
  have hl := lv_entry ([.ref (base + 816), .int p1]) (n := 4) (Nat.le_of_ble_eq_true rfl)
  rw [lg_entry_eq]
  generalize (lg_sl ([.ref (base + 816), .int p1]) ++ List.replicate (4 - (lg_sl ([.ref (base + 816), .int p1])).length) Slot.unset).toArray = ls at hl ⊢
  have hl : lv_has ls 4 [(0, .ref (base + 816)), (1, .int p1)] := hl
  refine lv_iload_n hx hb dX10_urgent_0 rfl (lv_at hl 1 rfl) ?_
  refine kS_I (As := [.int p1]) (rest := []) ⟨hx, hb, hml, hown, hts⟩ (k_isEnd l dC dI base cy v p1) (cwS 1 hts (gS ml_X10_231 mt_X10_isEnd mn_X10 mo_X10_isEnd) rfl rfl rfl (by decide +kernel) ⟨by decide, by decide⟩) hK hP hS rfl hl.1 rfl (Nat.le_of_ble_eq_true rfl) dX10_urgent_1 ⟨Nat.zero_le _, Nat.zero_le _⟩ (fun x1 v1 H locs hv1 hP hS => ?_)
  rw [hv1.1] at hP
  have ex1 := hv1.2
  refine lv_if_ne (tgt := 9) hx hb dX10_urgent_4 (by decide) (fun c4 => ?_) (fun c4 => ?_)
  · have hp : p1 = 0 ∨ p1 = 1 := by
      by_cases q : p1 = 0 ∨ p1 = 1
      · exact q
      · rw [ex1, if_neg q] at c4; exact absurd rfl c4
    obtain ⟨j, hj2, hj⟩ := e01 hp
    refine lv_aload_n hx hb dX10_urgent_9 rfl (lv_at hl 0 rfl) ?_
    have q2 := ch10_45 i10
    refine w_gR (C := RX10) (T := TX10) (N := 64) (ci := 10) hx hb hts in10 hown hK hP 45 i10.1 i10 rfl (by decide) q2.1 (hts _ mf_X10_143) dX10_urgent_10 ?_
    refine lv_iload_n hx hb dX10_urgent_13 rfl (lv_at hl 1 rfl) ?_
    refine w_ia (N := 2) hx hb hK hP q2.2.1.1 (q2.2.1) (q2.2.2) (by rw [hj]; exact vp_in_nI hj2 (by decide)) dX10_urgent_14 ?_
    refine lv_topi (fun x14 ex14 => ?_)
    refine lv_if_ne (tgt := 21) hx hb dX10_urgent_15 (by decide) (fun c15 => ?_) (fun c15 => ?_)
    · exact absurd (by rw [ex14]; exact (hm.z (by decide) _)) c15
    · refine lv_bipush (v := -2) hx hb dX10_urgent_18 (by decide) ?_
      exact W.iret (v := (-2)) hx hb hr (fun t ht hW => ⟨⟨(-2), v, rfl, (rE_y hp).symm, by rw [ht]; exact hP, va_K.moved hW.alike hK⟩, hS.F ht⟩) hS.2.2 dX10_urgent_20
  · have hp : ¬ (p1 = 0 ∨ p1 = 1) := by
      intro q
      rw [ex1, if_pos q] at c4
      exact absurd c4 (by decide)
    refine lv_iconst (v := -1) hx hb dX10_urgent_7 (by decide) ?_
    exact W.iret (v := (-1)) hx hb hr (fun t ht hW => ⟨⟨(-1), v, rfl, (rE_n hp).symm, by rw [ht]; exact hP, va_K.moved hW.alike hK⟩, hS.F ht⟩) hS.2.2 dX10_urgent_8
set_option maxHeartbeats 4000000 in
set_option maxRecDepth 100000 in
/-- read(end, i) on a new object -/
theorem k_read (l : Launch) (dC : Nat → ClassId) (dI : Nat → Nat → Nat) (base : Nat) (cy : Nat → ClassId) (v : VV) (hm : Fm v) (p1 p2 : Int32) : CI l yX10_read (.code yX10_read cX10_read 3 (some .int) :: TB) { frames := 1, cells := 0, slots := 0, locals := 21 } dC dI base cy [.ref (base + 816), .int p1, .int p2] v (fun (x : Int32) (_ : VV) => x = -1) := by
  refine Met.ofW (cc := cX10_read) (maxL := 3) (ret := (some .int)) (by decide) rfl ?_
  intro p e s m args below meth c s₁ B hml hv
  obtain ⟨rfl, hP, hK⟩ := hv
  have hx := B.exec
  have hb := B.bytes
  have hr := B.returns
  have hts0 := atoms_spec (ws := (.code yX10_read cX10_read 3 (some .int) :: TB)) B.pre
  have hts : ∀ w ∈ TB, w.before ([.ref (base + 816), .int p1, .int p2]).toArray s = true := fun w h => hts0 w (List.mem_cons_of_mem _ h)
  have hown : s.vm.findClass RX10 = some m.cls := findClass_of_methodNamed B.named
  have hlocks := B.notSynchronized
  have hS : va_S (fun q => base ≤ q) s.heap s.heap [] := va_S.rf
  have hl := lv_entry ([.ref (base + 816), .int p1, .int p2]) (n := 3) (Nat.le_of_ble_eq_true rfl)
  rw [lg_entry_eq]
  generalize (lg_sl ([.ref (base + 816), .int p1, .int p2]) ++ List.replicate (3 - (lg_sl ([.ref (base + 816), .int p1, .int p2])).length) Slot.unset).toArray = ls at hl ⊢
  have hl : lv_has ls 3 [(0, .ref (base + 816)), (1, .int p1), (2, .int p2)] := hl
  refine lv_iload_n hx hb dX10_read_0 rfl (lv_at hl 1 rfl) ?_
  refine kS_I (As := [.int p1]) (rest := []) ⟨hx, hb, hml, hown, hts⟩ (k_isEnd l dC dI base cy v p1) (cwS 1 hts (gS ml_X10_231 mt_X10_isEnd mn_X10 mo_X10_isEnd) rfl rfl rfl (by decide +kernel) ⟨by decide, by decide⟩) hK hP hS rfl hl.1 rfl (Nat.le_of_ble_eq_true rfl) dX10_read_1 ⟨Nat.zero_le _, Nat.zero_le _⟩ (fun x1 v1 H locs hv1 hP hS => ?_)
  rw [hv1.1] at hP
  have ex1 := hv1.2
  refine lv_if_eq (tgt := 36) hx hb dX10_read_4 (by decide) (fun c4 => ?_) (fun c4 => ?_)
  · refine lv_iconst (v := -1) hx hb dX10_read_36 (by decide) ?_
    exact W.iret (v := (-1)) hx hb hr (fun t ht hW => ⟨⟨(-1), v, rfl, rfl, by rw [ht]; exact hP, va_K.moved hW.alike hK⟩, hS.F ht⟩) hS.2.2 dX10_read_37
  · have hp : p1 = 0 ∨ p1 = 1 := by
      by_cases q : p1 = 0 ∨ p1 = 1
      · exact q
      · rw [ex1, if_neg q] at c4; exact absurd rfl c4
    obtain ⟨j, hj2, hj⟩ := e01 hp
    refine lv_iload_n hx hb dX10_read_7 rfl (lv_at hl 2 rfl) ?_
    refine lv_if_lt (tgt := 36) hx hb dX10_read_8 (by decide) (fun c8 => ?_) (fun c8 => ?_)
    · refine lv_iconst (v := -1) hx hb dX10_read_36 (by decide) ?_
      exact W.iret (v := (-1)) hx hb hr (fun t ht hW => ⟨⟨(-1), v, rfl, rfl, by rw [ht]; exact hP, va_K.moved hW.alike hK⟩, hS.F ht⟩) hS.2.2 dX10_read_37
    · refine lv_iload_n hx hb dX10_read_11 rfl (lv_at hl 2 rfl) ?_
      refine lv_aload_n hx hb dX10_read_12 rfl (lv_at hl 0 rfl) ?_
      have q2 := ch10_43 i10
      refine w_gR (C := RX10) (T := TX10) (N := 64) (ci := 10) hx hb hts in10 hown hK hP 43 i10.1 i10 rfl (by decide) q2.1 (hts _ mf_X10_137) dX10_read_13 ?_
      refine lv_iload_n hx hb dX10_read_16 rfl (lv_at hl 1 rfl) ?_
      refine w_ia (N := 2) hx hb hK hP q2.2.1.1 (q2.2.1) (q2.2.2) (by rw [hj]; exact vp_in_nI hj2 (by decide)) dX10_read_17 ?_
      refine lv_topi (fun x17 ex17 => ?_)
      refine lv_icmp_ge (tgt := 36) hx hb dX10_read_18 (by decide) (fun c18 => ?_) (fun c18 => ?_)
      · refine lv_iconst (v := -1) hx hb dX10_read_36 (by decide) ?_
        exact W.iret (v := (-1)) hx hb hr (fun t ht hW => ⟨⟨(-1), v, rfl, rfl, by rw [ht]; exact hP, va_K.moved hW.alike hK⟩, hS.F ht⟩) hS.2.2 dX10_read_37
      · exact absurd (by rw [ex17, hj, nI_clamp (by omega), hm.t hj2]; exact Int32.le_of_lt (Int32.lt_of_lt_of_le (by decide) (Int32.not_lt.mp c8))) c18
set_option maxHeartbeats 4000000 in
set_option maxRecDepth 100000 in
/-- urge(end, b) on a new object -/
theorem k_urge (l : Launch) (dC : Nat → ClassId) (dI : Nat → Nat → Nat) (base : Nat) (cy : Nat → ClassId) (v : VV) (hm : Fm v) (p1 p2 : Int32) : CI l yX10_urge (.code yX10_urge cX10_urge 3 (some .int) :: TB) { frames := 1, cells := 0, slots := 0, locals := 21 } dC dI base cy [.ref (base + 816), .int p1, .int p2] v (fun (x : Int32) (_ : VV) => (ugB p1 p2 ∧ x = -2 ∨ ¬ ugB p1 p2 ∧ x = -1)) := by
  refine Met.ofW (cc := cX10_urge) (maxL := 3) (ret := (some .int)) (by decide) rfl ?_
  intro p e s m args below meth c s₁ B hml hv
  obtain ⟨rfl, hP, hK⟩ := hv
  have hx := B.exec
  have hb := B.bytes
  have hr := B.returns
  have hts0 := atoms_spec (ws := (.code yX10_urge cX10_urge 3 (some .int) :: TB)) B.pre
  have hts : ∀ w ∈ TB, w.before ([.ref (base + 816), .int p1, .int p2]).toArray s = true := fun w h => hts0 w (List.mem_cons_of_mem _ h)
  have hown : s.vm.findClass RX10 = some m.cls := findClass_of_methodNamed B.named
  have hlocks := B.notSynchronized
  have hS : va_S (fun q => base ≤ q) s.heap s.heap [] := va_S.rf
  have hl := lv_entry ([.ref (base + 816), .int p1, .int p2]) (n := 3) (Nat.le_of_ble_eq_true rfl)
  rw [lg_entry_eq]
  generalize (lg_sl ([.ref (base + 816), .int p1, .int p2]) ++ List.replicate (3 - (lg_sl ([.ref (base + 816), .int p1, .int p2])).length) Slot.unset).toArray = ls at hl ⊢
  have hl : lv_has ls 3 [(0, .ref (base + 816)), (1, .int p1), (2, .int p2)] := hl
  refine lv_iload_n hx hb dX10_urge_0 rfl (lv_at hl 1 rfl) ?_
  refine kS_I (As := [.int p1]) (rest := []) ⟨hx, hb, hml, hown, hts⟩ (k_isEnd l dC dI base cy v p1) (cwS 1 hts (gS ml_X10_231 mt_X10_isEnd mn_X10 mo_X10_isEnd) rfl rfl rfl (by decide +kernel) ⟨by decide, by decide⟩) hK hP hS rfl hl.1 rfl (Nat.le_of_ble_eq_true rfl) dX10_urge_1 ⟨Nat.zero_le _, Nat.zero_le _⟩ (fun x1 v1 H locs hv1 hP hS => ?_)
  rw [hv1.1] at hP
  have ex1 := hv1.2
  refine lv_if_eq (tgt := 18) hx hb dX10_urge_4 (by decide) (fun c4 => ?_) (fun c4 => ?_)
  · have hp : ¬ (p1 = 0 ∨ p1 = 1) := by
      intro q
      rw [ex1, if_pos q] at c4
      exact absurd c4 (by decide)
    refine lv_iconst (v := -1) hx hb dX10_urge_18 (by decide) ?_
    exact W.iret (v := (-1)) hx hb hr (fun t ht hW => ⟨⟨(-1), v, rfl, Or.inr ⟨fun q => by first | exact hp q.1 | exact q.2.1 c8 | exact c15 q.2.2, rfl⟩, by rw [ht]; exact hP, va_K.moved hW.alike hK⟩, hS.F ht⟩) hS.2.2 dX10_urge_19
  · have hp : p1 = 0 ∨ p1 = 1 := by
      by_cases q : p1 = 0 ∨ p1 = 1
      · exact q
      · rw [ex1, if_neg q] at c4; exact absurd rfl c4
    obtain ⟨j, hj2, hj⟩ := e01 hp
    refine lv_iload_n hx hb dX10_urge_7 rfl (lv_at hl 2 rfl) ?_
    refine lv_if_lt (tgt := 18) hx hb dX10_urge_8 (by decide) (fun c8 => ?_) (fun c8 => ?_)
    · refine lv_iconst (v := -1) hx hb dX10_urge_18 (by decide) ?_
      exact W.iret (v := (-1)) hx hb hr (fun t ht hW => ⟨⟨(-1), v, rfl, Or.inr ⟨fun q => by first | exact hp q.1 | exact q.2.1 c8 | exact c15 q.2.2, rfl⟩, by rw [ht]; exact hP, va_K.moved hW.alike hK⟩, hS.F ht⟩) hS.2.2 dX10_urge_19
    · refine lv_iload_n hx hb dX10_urge_11 rfl (lv_at hl 2 rfl) ?_
      refine lv_sipush (v := 255) hx hb dX10_urge_12 (by decide) ?_
      refine lv_icmp_le (tgt := 20) hx hb dX10_urge_15 (by decide) (fun c15 => ?_) (fun c15 => ?_)
      · refine lv_aload_n hx hb dX10_urge_20 rfl (lv_at hl 0 rfl) ?_
        have q2 := ch10_1 i10
        refine w_gR (C := RX10) (T := TX10) (N := 64) (ci := 10) hx hb hts in10 hown hK hP 1 i10.1 i10 rfl (by decide) q2.1 (hts _ mf_X10_7) dX10_urge_21 ?_
        refine lv_iload_n hx hb dX10_urge_24 rfl (lv_at hl 1 rfl) ?_
        refine w_ia (N := 2) hx hb hK hP q2.2.1.1 (q2.2.1) (q2.2.2) (by rw [hj]; exact vp_in_nI hj2 (by decide)) dX10_urge_25 ?_
        refine lv_topi (fun x25 ex25 => ?_)
        refine lv_iconst (v := 2) hx hb dX10_urge_26 (by decide) ?_
        refine lv_icmp_eq (tgt := 33) hx hb dX10_urge_27 (by decide) (fun c27 => ?_) (fun c27 => ?_)
        · exact absurd c27 (by rw [ex25, hm.z (by decide)]; decide)
        · refine lv_bipush (v := -2) hx hb dX10_urge_30 (by decide) ?_
          exact W.iret (v := (-2)) hx hb hr (fun t ht hW => ⟨⟨(-2), v, rfl, Or.inl ⟨⟨hp, c8, c15⟩, rfl⟩, by rw [ht]; exact hP, va_K.moved hW.alike hK⟩, hS.F ht⟩) hS.2.2 dX10_urge_32
      · refine lv_iconst (v := -1) hx hb dX10_urge_18 (by decide) ?_
        exact W.iret (v := (-1)) hx hb hr (fun t ht hW => ⟨⟨(-1), v, rfl, Or.inr ⟨fun q => by first | exact hp q.1 | exact q.2.1 c8 | exact c15 q.2.2, rfl⟩, by rw [ht]; exact hP, va_K.moved hW.alike hK⟩, hS.F ht⟩) hS.2.2 dX10_urge_19
set_option maxHeartbeats 4000000 in
set_option maxRecDepth 100000 in
/-- sent() on a new object -/
theorem k_sent (l : Launch) (dC : Nat → ClassId) (dI : Nat → Nat → Nat) (base : Nat) (cy : Nat → ClassId) (v : VV) (hm : Fm v) : CI l yX10_sent (.code yX10_sent cX10_sent 1 (some .int) :: TB) { frames := 0, cells := 0, slots := 0, locals := 0 } dC dI base cy [.ref (base + 816)] v (fun (x : Int32) (_ : VV) => x = 0) := by
  refine Met.ofW (cc := cX10_sent) (maxL := 1) (ret := (some .int)) (by decide) rfl ?_
  intro p e s m args below meth c s₁ B hml hv
  obtain ⟨rfl, hP, hK⟩ := hv
  have hx := B.exec
  have hb := B.bytes
  have hr := B.returns
  have hts0 := atoms_spec (ws := (.code yX10_sent cX10_sent 1 (some .int) :: TB)) B.pre
  have hts : ∀ w ∈ TB, w.before ([.ref (base + 816)]).toArray s = true := fun w h => hts0 w (List.mem_cons_of_mem _ h)
  have hown : s.vm.findClass RX10 = some m.cls := findClass_of_methodNamed B.named
  have hlocks := B.notSynchronized
  have hS : va_S (fun q => base ≤ q) s.heap s.heap [] := va_S.rf
  have hl := lv_entry ([.ref (base + 816)]) (n := 1) (Nat.le_of_ble_eq_true rfl)
  rw [lg_entry_eq]
  generalize (lg_sl ([.ref (base + 816)]) ++ List.replicate (1 - (lg_sl ([.ref (base + 816)])).length) Slot.unset).toArray = ls at hl ⊢
  have hl : lv_has ls 1 [(0, .ref (base + 816))] := hl
  refine lv_aload_n hx hb dX10_sent_0 rfl (lv_at hl 0 rfl) ?_
  refine w_gI (C := RX10) (T := TX10) (N := 64) (ci := 10) hx hb hts in10 hown hK hP 54 i10.1 i10 rfl (by decide) (hts _ mf_X10_195) dX10_sent_1 ?_
  refine lv_topi (fun x1 ex1 => ?_)
  exact W.iret (v := x1) hx hb hr (fun t ht hW => ⟨⟨x1, v, rfl, by rw [ex1]; exact hm.z (by decide) _, by rw [ht]; exact hP, va_K.moved hW.alike hK⟩, hS.F ht⟩) hS.2.2 dX10_sent_4
set_option maxHeartbeats 4000000 in
set_option maxRecDepth 100000 in
/-- clock() on a new object -/
theorem k_clock (l : Launch) (dC : Nat → ClassId) (dI : Nat → Nat → Nat) (base : Nat) (cy : Nat → ClassId) (v : VV) (hm : Fm v) : CI l yX10_clock (.code yX10_clock cX10_clock 1 (some .int) :: TB) { frames := 0, cells := 0, slots := 0, locals := 0 } dC dI base cy [.ref (base + 816)] v (fun (x : Int32) (_ : VV) => x = 0) := by
  refine Met.ofW (cc := cX10_clock) (maxL := 1) (ret := (some .int)) (by decide) rfl ?_
  intro p e s m args below meth c s₁ B hml hv
  obtain ⟨rfl, hP, hK⟩ := hv
  have hx := B.exec
  have hb := B.bytes
  have hr := B.returns
  have hts0 := atoms_spec (ws := (.code yX10_clock cX10_clock 1 (some .int) :: TB)) B.pre
  have hts : ∀ w ∈ TB, w.before ([.ref (base + 816)]).toArray s = true := fun w h => hts0 w (List.mem_cons_of_mem _ h)
  have hown : s.vm.findClass RX10 = some m.cls := findClass_of_methodNamed B.named
  have hlocks := B.notSynchronized
  have hS : va_S (fun q => base ≤ q) s.heap s.heap [] := va_S.rf
  have hl := lv_entry ([.ref (base + 816)]) (n := 1) (Nat.le_of_ble_eq_true rfl)
  rw [lg_entry_eq]
  generalize (lg_sl ([.ref (base + 816)]) ++ List.replicate (1 - (lg_sl ([.ref (base + 816)])).length) Slot.unset).toArray = ls at hl ⊢
  have hl : lv_has ls 1 [(0, .ref (base + 816))] := hl
  refine lv_aload_n hx hb dX10_clock_0 rfl (lv_at hl 0 rfl) ?_
  refine w_gI (C := RX10) (T := TX10) (N := 64) (ci := 10) hx hb hts in10 hown hK hP 0 i10.1 i10 rfl (by decide) (hts _ mf_X10_198) dX10_clock_1 ?_
  refine lv_topi (fun x1 ex1 => ?_)
  exact W.iret (v := x1) hx hb hr (fun t ht hW => ⟨⟨x1, v, rfl, by rw [ex1]; exact hm.z (by decide) _, by rw [ht]; exact hP, va_K.moved hW.alike hK⟩, hS.F ht⟩) hS.2.2 dX10_clock_4
set_option maxHeartbeats 4000000 in
set_option maxRecDepth 100000 in
/-- byteOf(number, i) on a new object -/
theorem k_byteOf (l : Launch) (dC : Nat → ClassId) (dI : Nat → Nat → Nat) (base : Nat) (cy : Nat → ClassId) (v : VV) (hm : Fm v) (p1 p2 : Int32) : CI l yX10_byteOf (.code yX10_byteOf cX10_byteOf 4 (some .int) :: TB) { frames := 0, cells := 0, slots := 0, locals := 0 } dC dI base cy [.ref (base + 816), .int p1, .int p2] v (fun (x : Int32) (_ : VV) => x = -1) := by
  refine Met.ofW (cc := cX10_byteOf) (maxL := 4) (ret := (some .int)) (by decide) rfl ?_
  intro p e s m args below meth c s₁ B hml hv
  obtain ⟨rfl, hP, hK⟩ := hv
  have hx := B.exec
  have hb := B.bytes
  have hr := B.returns
  have hts0 := atoms_spec (ws := (.code yX10_byteOf cX10_byteOf 4 (some .int) :: TB)) B.pre
  have hts : ∀ w ∈ TB, w.before ([.ref (base + 816), .int p1, .int p2]).toArray s = true := fun w h => hts0 w (List.mem_cons_of_mem _ h)
  have hown : s.vm.findClass RX10 = some m.cls := findClass_of_methodNamed B.named
  have hlocks := B.notSynchronized
  have hS : va_S (fun q => base ≤ q) s.heap s.heap [] := va_S.rf
  have hl := lv_entry ([.ref (base + 816), .int p1, .int p2]) (n := 4) (Nat.le_of_ble_eq_true rfl)
  rw [lg_entry_eq]
  generalize (lg_sl ([.ref (base + 816), .int p1, .int p2]) ++ List.replicate (4 - (lg_sl ([.ref (base + 816), .int p1, .int p2])).length) Slot.unset).toArray = ls at hl ⊢
  have hl : lv_has ls 4 [(0, .ref (base + 816)), (1, .int p1), (2, .int p2)] := hl
  refine lv_iload_n hx hb dX10_byteOf_0 rfl (lv_at hl 1 rfl) ?_
  refine lv_if_lt (tgt := 27) hx hb dX10_byteOf_1 (by decide) (fun c1 => ?_) (fun c1 => ?_)
  · refine lv_iconst (v := 0) hx hb dX10_byteOf_27 (by decide) ?_
    refine lv_istore_n (lv' := [(3, .int 0), (0, .ref (base + 816)), (1, .int p1), (2, .int p2)]) hx hb dX10_byteOf_28 rfl hl (by decide) rfl (fun ls hl => ?_)
    refine lv_iload_n hx hb dX10_byteOf_29 rfl (lv_at hl 0 rfl) ?_
    refine lv_if_eq (tgt := 69) hx hb dX10_byteOf_30 (by decide) (fun c30 => ?_) (fun c30 => ?_)
    · refine lv_iconst (v := -1) hx hb dX10_byteOf_69 (by decide) ?_
      exact W.iret (v := (-1)) hx hb hr (fun t ht hW => ⟨⟨(-1), v, rfl, by trivial, by rw [ht]; exact hP, va_K.moved hW.alike hK⟩, hS.F ht⟩) hS.2.2 dX10_byteOf_70
    · exact absurd (by decide) c30
  · refine lv_iload_n hx hb dX10_byteOf_4 rfl (lv_at hl 1 rfl) ?_
    refine lv_aload_n hx hb dX10_byteOf_5 rfl (lv_at hl 0 rfl) ?_
    refine w_gI (C := RX10) (T := TX10) (N := 64) (ci := 10) hx hb hts in10 hown hK hP 54 i10.1 i10 rfl (by decide) (hts _ mf_X10_195) dX10_byteOf_6 ?_
    refine lv_topi (fun x6 ex6 => ?_)
    refine lv_icmp_ge (tgt := 27) hx hb dX10_byteOf_9 (by decide) (fun c9 => ?_) (fun c9 => ?_)
    · refine lv_iconst (v := 0) hx hb dX10_byteOf_27 (by decide) ?_
      refine lv_istore_n (lv' := [(3, .int 0), (0, .ref (base + 816)), (1, .int p1), (2, .int p2)]) hx hb dX10_byteOf_28 rfl hl (by decide) rfl (fun ls hl => ?_)
      refine lv_iload_n hx hb dX10_byteOf_29 rfl (lv_at hl 0 rfl) ?_
      refine lv_if_eq (tgt := 69) hx hb dX10_byteOf_30 (by decide) (fun c30 => ?_) (fun c30 => ?_)
      · refine lv_iconst (v := -1) hx hb dX10_byteOf_69 (by decide) ?_
        exact W.iret (v := (-1)) hx hb hr (fun t ht hW => ⟨⟨(-1), v, rfl, by trivial, by rw [ht]; exact hP, va_K.moved hW.alike hK⟩, hS.F ht⟩) hS.2.2 dX10_byteOf_70
      · exact absurd (by decide) c30
    · exact absurd (by rw [ex6, hm.z (by decide)]; exact Int32.not_lt.mp c1) c9
set_option maxHeartbeats 4000000 in
set_option maxRecDepth 100000 in
/-- fault on a new object -/
theorem k_fault (l : Launch) (dC : Nat → ClassId) (dI : Nat → Nat → Nat) (base : Nat) (cy : Nat → ClassId) (v : VV) (hm : Fm v) (p1 p2 p3 p4 : Int32) : CI l yX10_fault (.code yX10_fault cX10_fault 5 (some .int) :: TB) { frames := 0, cells := 0, slots := 0, locals := 0 } dC dI base cy [.ref (base + 816), .int p1, .int p2, .int p3, .int p4] v (fun (x : Int32) (_ : VV) => (flB p1 p2 p3 p4 ∧ x = 1 ∨ ¬ flB p1 p2 p3 p4 ∧ x = -1)) := by
  refine Met.ofW (cc := cX10_fault) (maxL := 5) (ret := (some .int)) (by decide) rfl ?_
  intro p e s m args below meth c s₁ B hml hv
  obtain ⟨rfl, hP, hK⟩ := hv
  have hx := B.exec
  have hb := B.bytes
  have hr := B.returns
  have hts0 := atoms_spec (ws := (.code yX10_fault cX10_fault 5 (some .int) :: TB)) B.pre
  have hts : ∀ w ∈ TB, w.before ([.ref (base + 816), .int p1, .int p2, .int p3, .int p4]).toArray s = true := fun w h => hts0 w (List.mem_cons_of_mem _ h)
  have hown : s.vm.findClass RX10 = some m.cls := findClass_of_methodNamed B.named
  have hlocks := B.notSynchronized
  have hS : va_S (fun q => base ≤ q) s.heap s.heap [] := va_S.rf
  have hl := lv_entry ([.ref (base + 816), .int p1, .int p2, .int p3, .int p4]) (n := 5) (Nat.le_of_ble_eq_true rfl)
  rw [lg_entry_eq]
  generalize (lg_sl ([.ref (base + 816), .int p1, .int p2, .int p3, .int p4]) ++ List.replicate (5 - (lg_sl ([.ref (base + 816), .int p1, .int p2, .int p3, .int p4])).length) Slot.unset).toArray = ls at hl ⊢
  have hl : lv_has ls 5 [(0, .ref (base + 816)), (1, .int p1), (2, .int p2), (3, .int p3), (4, .int p4)] := hl
  refine lv_iload_n hx hb dX10_fault_0 rfl (lv_at hl 1 rfl) ?_
  refine lv_iconst (v := 1) hx hb dX10_fault_1 (by decide) ?_
  refine lv_icmp_lt (tgt := 41) hx hb dX10_fault_2 (by decide) (fun c2 => ?_) (fun c2 => ?_)
  · refine lv_iconst (v := -1) hx hb dX10_fault_41 (by decide) ?_
    exact W.iret (v := (-1)) hx hb hr (fun t ht hW => ⟨⟨(-1), v, rfl, Or.inr ⟨fun q => by first | exact q.1 c2 | exact absurd q.2.1 (Int32.not_le.mpr c7) | exact q.2.2.1 (by have w := c15; rw [ex12, hm.z (by decide)] at w; exact w) | exact (q.2.2.2 c20).1 c24 | exact (q.2.2.2 c20).2.1 c30 | exact c38 (q.2.2.2 c20).2.2, rfl⟩, by rw [ht]; exact hP, va_K.moved hW.alike hK⟩, hS.F ht⟩) hS.2.2 dX10_fault_42
  · refine lv_iload_n hx hb dX10_fault_5 rfl (lv_at hl 1 rfl) ?_
    refine lv_iconst (v := 4) hx hb dX10_fault_6 (by decide) ?_
    refine lv_icmp_gt (tgt := 41) hx hb dX10_fault_7 (by decide) (fun c7 => ?_) (fun c7 => ?_)
    · refine lv_iconst (v := -1) hx hb dX10_fault_41 (by decide) ?_
      exact W.iret (v := (-1)) hx hb hr (fun t ht hW => ⟨⟨(-1), v, rfl, Or.inr ⟨fun q => by first | exact q.1 c2 | exact absurd q.2.1 (Int32.not_le.mpr c7) | exact q.2.2.1 (by have w := c15; rw [ex12, hm.z (by decide)] at w; exact w) | exact (q.2.2.2 c20).1 c24 | exact (q.2.2.2 c20).2.1 c30 | exact c38 (q.2.2.2 c20).2.2, rfl⟩, by rw [ht]; exact hP, va_K.moved hW.alike hK⟩, hS.F ht⟩) hS.2.2 dX10_fault_42
    · refine lv_iload_n hx hb dX10_fault_10 rfl (lv_at hl 2 rfl) ?_
      refine lv_aload_n hx hb dX10_fault_11 rfl (lv_at hl 0 rfl) ?_
      refine w_gI (C := RX10) (T := TX10) (N := 64) (ci := 10) hx hb hts in10 hown hK hP 54 i10.1 i10 rfl (by decide) (hts _ mf_X10_195) dX10_fault_12 ?_
      refine lv_topi (fun x12 ex12 => ?_)
      refine lv_icmp_lt (tgt := 41) hx hb dX10_fault_15 (by decide) (fun c15 => ?_) (fun c15 => ?_)
      · refine lv_iconst (v := -1) hx hb dX10_fault_41 (by decide) ?_
        exact W.iret (v := (-1)) hx hb hr (fun t ht hW => ⟨⟨(-1), v, rfl, Or.inr ⟨fun q => by first | exact q.1 c2 | exact absurd q.2.1 (Int32.not_le.mpr c7) | exact q.2.2.1 (by have w := c15; rw [ex12, hm.z (by decide)] at w; exact w) | exact (q.2.2.2 c20).1 c24 | exact (q.2.2.2 c20).2.1 c30 | exact c38 (q.2.2.2 c20).2.2, rfl⟩, by rw [ht]; exact hP, va_K.moved hW.alike hK⟩, hS.F ht⟩) hS.2.2 dX10_fault_42
      · refine lv_iload_n hx hb dX10_fault_18 rfl (lv_at hl 1 rfl) ?_
        refine lv_iconst (v := 4) hx hb dX10_fault_19 (by decide) ?_
        refine lv_icmp_ne (tgt := 43) hx hb dX10_fault_20 (by decide) (fun c20 => ?_) (fun c20 => ?_)
        · have hok : flB p1 p2 p3 p4 := ⟨c2, Int32.not_lt.mp c7, by have w := c15; rw [ex12, hm.z (by decide)] at w; exact w, fun q => by first | exact absurd q c20 | exact ⟨c24, c30, c38⟩⟩
          refine lv_aload_n hx hb dX10_fault_43 rfl (lv_at hl 0 rfl) ?_
          refine w_gI (C := RX10) (T := TX10) (N := 64) (ci := 10) hx hb hts in10 hown hK hP 49 i10.1 i10 rfl (by decide) (hts _ mf_X10_302) dX10_fault_44 ?_
          refine lv_topi (fun x44 ex44 => ?_)
          refine lv_bipush (v := 60) hx hb dX10_fault_47 (by decide) ?_
          refine lv_icmp_ne (tgt := 55) hx hb dX10_fault_49 (by decide) (fun c49 => ?_) (fun c49 => ?_)
          · refine lv_aload_n hx hb dX10_fault_55 rfl (lv_at hl 0 rfl) ?_
            have q1 := ch10_50 i10
            refine w_gR (C := RX10) (T := TX10) (N := 64) (ci := 10) hx hb hts in10 hown hK hP 50 i10.1 i10 rfl (by decide) q1.1 (hts _ mf_X10_152) dX10_fault_56 ?_
            refine lv_aload_n hx hb dX10_fault_59 rfl (lv_at hl 0 rfl) ?_
            refine w_gI (C := RX10) (T := TX10) (N := 64) (ci := 10) hx hb hts in10 hown hK hP 49 i10.1 i10 rfl (by decide) (hts _ mf_X10_302) dX10_fault_60 ?_
            refine lv_topi (fun x60 ex60 => ?_)
            refine lv_iload_n hx hb dX10_fault_63 rfl (lv_at hl 1 rfl) ?_
            refine w_is (N := 60) hx hb hK hP hS q1.2.1.1 (q1.2.1) (q1.2.2) (by rw [ex60, hm.z (by decide)]; exact vp_in_nI (n := 0) (by decide) (by decide)) dX10_fault_64 (fun v2 H locs hv2 hP hz hS => ?_)
            refine lv_aload_n hx hb dX10_fault_65 rfl (lv_at hl 0 rfl) ?_
            have q3 := ch10_51 i10
            refine w_gR (C := RX10) (T := TX10) (N := 64) (ci := 10) hx hb hts in10 hown hK hP 51 i10.1 i10 rfl (by decide) q3.1 (hts _ mf_X10_155) dX10_fault_66 ?_
            refine lv_aload_n hx hb dX10_fault_69 rfl (lv_at hl 0 rfl) ?_
            refine w_gI (C := RX10) (T := TX10) (N := 64) (ci := 10) hx hb hts in10 hown hK hP 49 i10.1 i10 rfl (by decide) (hts _ mf_X10_302) dX10_fault_70 ?_
            refine lv_topi (fun x70 ex70 => ?_)
            refine lv_iload_n hx hb dX10_fault_73 rfl (lv_at hl 2 rfl) ?_
            refine w_is (N := 60) hx hb hK hP hS q3.2.1.1 (q3.2.1) (q3.2.2) (by subst hv2; rw [ex70, up2_o _ _ _ _ _ (by decide), hm.z (by decide)]; exact vp_in_nI (n := 0) (by decide) (by decide)) dX10_fault_74 (fun v4 H locs hv4 hP hz hS => ?_)
            refine lv_aload_n hx hb dX10_fault_75 rfl (lv_at hl 0 rfl) ?_
            have q5 := ch10_52 i10
            refine w_gR (C := RX10) (T := TX10) (N := 64) (ci := 10) hx hb hts in10 hown hK hP 52 i10.1 i10 rfl (by decide) q5.1 (hts _ mf_X10_158) dX10_fault_76 ?_
            refine lv_aload_n hx hb dX10_fault_79 rfl (lv_at hl 0 rfl) ?_
            refine w_gI (C := RX10) (T := TX10) (N := 64) (ci := 10) hx hb hts in10 hown hK hP 49 i10.1 i10 rfl (by decide) (hts _ mf_X10_302) dX10_fault_80 ?_
            refine lv_topi (fun x80 ex80 => ?_)
            refine lv_iload_n hx hb dX10_fault_83 rfl (lv_at hl 3 rfl) ?_
            refine w_is (N := 60) hx hb hK hP hS q5.2.1.1 (q5.2.1) (q5.2.2) (by subst hv4 hv2; rw [ex80, up2_o _ _ _ _ _ (by decide), up2_o _ _ _ _ _ (by decide), hm.z (by decide)]; exact vp_in_nI (n := 0) (by decide) (by decide)) dX10_fault_84 (fun v6 H locs hv6 hP hz hS => ?_)
            refine lv_aload_n hx hb dX10_fault_85 rfl (lv_at hl 0 rfl) ?_
            have q7 := ch10_53 i10
            refine w_gR (C := RX10) (T := TX10) (N := 64) (ci := 10) hx hb hts in10 hown hK hP 53 i10.1 i10 rfl (by decide) q7.1 (hts _ mf_X10_161) dX10_fault_86 ?_
            refine lv_aload_n hx hb dX10_fault_89 rfl (lv_at hl 0 rfl) ?_
            refine w_gI (C := RX10) (T := TX10) (N := 64) (ci := 10) hx hb hts in10 hown hK hP 49 i10.1 i10 rfl (by decide) (hts _ mf_X10_302) dX10_fault_90 ?_
            refine lv_topi (fun x90 ex90 => ?_)
            refine lv_iload hx hb dX10_fault_93 (lv_at hl 4 rfl) ?_
            refine w_is (N := 60) hx hb hK hP hS q7.2.1.1 (q7.2.1) (q7.2.2) (by subst hv6 hv4 hv2; rw [ex90, up2_o _ _ _ _ _ (by decide), up2_o _ _ _ _ _ (by decide), up2_o _ _ _ _ _ (by decide), hm.z (by decide)]; exact vp_in_nI (n := 0) (by decide) (by decide)) dX10_fault_95 (fun v8 H locs hv8 hP hz hS => ?_)
            refine lv_aload_n hx hb dX10_fault_96 rfl (lv_at hl 0 rfl) ?_
            refine lv_dup hx hb dX10_fault_97 rfl ?_
            refine w_gI (C := RX10) (T := TX10) (N := 64) (ci := 10) hx hb hts in10 hown hK hP 49 i10.1 i10 rfl (by decide) (hts _ mf_X10_302) dX10_fault_98 ?_
            refine lv_topi (fun x98 ex98 => ?_)
            refine lv_iconst (v := 1) hx hb dX10_fault_101 (by decide) ?_
            refine lv_iadd hx hb dX10_fault_102 ?_
            refine lv_topi (fun x102 ex102 => ?_)
            refine w_pI (C := RX10) (T := TX10) (N := 64) (ci := 10) hx hb hts in10 tyX10 tyX10_ok nmX10 hown hK hP hS 49 i10.1 i10 rfl (by decide) (hts _ mf_X10_302) rfl (ty := .int) (by decide +kernel) rfl rfl dX10_fault_103 (fun v9 H locs hv9 hP hz hS => ?_)
            refine lv_aload_n hx hb dX10_fault_106 rfl (lv_at hl 0 rfl) ?_
            refine w_gI (C := RX10) (T := TX10) (N := 64) (ci := 10) hx hb hts in10 hown hK hP 49 i10.1 i10 rfl (by decide) (hts _ mf_X10_302) dX10_fault_107 ?_
            refine lv_topi (fun x107 ex107 => ?_)
            exact W.iret (v := x107) hx hb hr (fun t ht hW => ⟨⟨x107, v9, rfl, Or.inl ⟨hok, by subst hv9 hv8 hv6 hv4 hv2; rw [ex107, up2_s, ex102, ex98, up2_o _ _ _ _ _ (by decide), up2_o _ _ _ _ _ (by decide), up2_o _ _ _ _ _ (by decide), up2_o _ _ _ _ _ (by decide), hm.z (by decide)]; rfl⟩, by rw [ht]; exact hP, va_K.moved hW.alike hK⟩, hS.F ht⟩) hS.2.2 dX10_fault_110
          · exact absurd c49 (by rw [ex44, hm.z (by decide)]; decide)
        · refine lv_iload_n hx hb dX10_fault_23 rfl (lv_at hl 3 rfl) ?_
          refine lv_if_lt (tgt := 41) hx hb dX10_fault_24 (by decide) (fun c24 => ?_) (fun c24 => ?_)
          · refine lv_iconst (v := -1) hx hb dX10_fault_41 (by decide) ?_
            exact W.iret (v := (-1)) hx hb hr (fun t ht hW => ⟨⟨(-1), v, rfl, Or.inr ⟨fun q => by first | exact q.1 c2 | exact absurd q.2.1 (Int32.not_le.mpr c7) | exact q.2.2.1 (by have w := c15; rw [ex12, hm.z (by decide)] at w; exact w) | exact (q.2.2.2 c20).1 c24 | exact (q.2.2.2 c20).2.1 c30 | exact c38 (q.2.2.2 c20).2.2, rfl⟩, by rw [ht]; exact hP, va_K.moved hW.alike hK⟩, hS.F ht⟩) hS.2.2 dX10_fault_42
          · refine lv_iload hx hb dX10_fault_27 (lv_at hl 4 rfl) ?_
            refine lv_iconst (v := 1) hx hb dX10_fault_29 (by decide) ?_
            refine lv_icmp_lt (tgt := 41) hx hb dX10_fault_30 (by decide) (fun c30 => ?_) (fun c30 => ?_)
            · refine lv_iconst (v := -1) hx hb dX10_fault_41 (by decide) ?_
              exact W.iret (v := (-1)) hx hb hr (fun t ht hW => ⟨⟨(-1), v, rfl, Or.inr ⟨fun q => by first | exact q.1 c2 | exact absurd q.2.1 (Int32.not_le.mpr c7) | exact q.2.2.1 (by have w := c15; rw [ex12, hm.z (by decide)] at w; exact w) | exact (q.2.2.2 c20).1 c24 | exact (q.2.2.2 c20).2.1 c30 | exact c38 (q.2.2.2 c20).2.2, rfl⟩, by rw [ht]; exact hP, va_K.moved hW.alike hK⟩, hS.F ht⟩) hS.2.2 dX10_fault_42
            · refine lv_iload hx hb dX10_fault_33 (lv_at hl 4 rfl) ?_
              refine lv_sipush (v := 255) hx hb dX10_fault_35 (by decide) ?_
              refine lv_icmp_le (tgt := 43) hx hb dX10_fault_38 (by decide) (fun c38 => ?_) (fun c38 => ?_)
              · have hok : flB p1 p2 p3 p4 := ⟨c2, Int32.not_lt.mp c7, by have w := c15; rw [ex12, hm.z (by decide)] at w; exact w, fun q => by first | exact absurd q c20 | exact ⟨c24, c30, c38⟩⟩
                refine lv_aload_n hx hb dX10_fault_43 rfl (lv_at hl 0 rfl) ?_
                refine w_gI (C := RX10) (T := TX10) (N := 64) (ci := 10) hx hb hts in10 hown hK hP 49 i10.1 i10 rfl (by decide) (hts _ mf_X10_302) dX10_fault_44 ?_
                refine lv_topi (fun x44 ex44 => ?_)
                refine lv_bipush (v := 60) hx hb dX10_fault_47 (by decide) ?_
                refine lv_icmp_ne (tgt := 55) hx hb dX10_fault_49 (by decide) (fun c49 => ?_) (fun c49 => ?_)
                · refine lv_aload_n hx hb dX10_fault_55 rfl (lv_at hl 0 rfl) ?_
                  have q10 := ch10_50 i10
                  refine w_gR (C := RX10) (T := TX10) (N := 64) (ci := 10) hx hb hts in10 hown hK hP 50 i10.1 i10 rfl (by decide) q10.1 (hts _ mf_X10_152) dX10_fault_56 ?_
                  refine lv_aload_n hx hb dX10_fault_59 rfl (lv_at hl 0 rfl) ?_
                  refine w_gI (C := RX10) (T := TX10) (N := 64) (ci := 10) hx hb hts in10 hown hK hP 49 i10.1 i10 rfl (by decide) (hts _ mf_X10_302) dX10_fault_60 ?_
                  refine lv_topi (fun x60 ex60 => ?_)
                  refine lv_iload_n hx hb dX10_fault_63 rfl (lv_at hl 1 rfl) ?_
                  refine w_is (N := 60) hx hb hK hP hS q10.2.1.1 (q10.2.1) (q10.2.2) (by rw [ex60, hm.z (by decide)]; exact vp_in_nI (n := 0) (by decide) (by decide)) dX10_fault_64 (fun v11 H locs hv11 hP hz hS => ?_)
                  refine lv_aload_n hx hb dX10_fault_65 rfl (lv_at hl 0 rfl) ?_
                  have q12 := ch10_51 i10
                  refine w_gR (C := RX10) (T := TX10) (N := 64) (ci := 10) hx hb hts in10 hown hK hP 51 i10.1 i10 rfl (by decide) q12.1 (hts _ mf_X10_155) dX10_fault_66 ?_
                  refine lv_aload_n hx hb dX10_fault_69 rfl (lv_at hl 0 rfl) ?_
                  refine w_gI (C := RX10) (T := TX10) (N := 64) (ci := 10) hx hb hts in10 hown hK hP 49 i10.1 i10 rfl (by decide) (hts _ mf_X10_302) dX10_fault_70 ?_
                  refine lv_topi (fun x70 ex70 => ?_)
                  refine lv_iload_n hx hb dX10_fault_73 rfl (lv_at hl 2 rfl) ?_
                  refine w_is (N := 60) hx hb hK hP hS q12.2.1.1 (q12.2.1) (q12.2.2) (by subst hv11; rw [ex70, up2_o _ _ _ _ _ (by decide), hm.z (by decide)]; exact vp_in_nI (n := 0) (by decide) (by decide)) dX10_fault_74 (fun v13 H locs hv13 hP hz hS => ?_)
                  refine lv_aload_n hx hb dX10_fault_75 rfl (lv_at hl 0 rfl) ?_
                  have q14 := ch10_52 i10
                  refine w_gR (C := RX10) (T := TX10) (N := 64) (ci := 10) hx hb hts in10 hown hK hP 52 i10.1 i10 rfl (by decide) q14.1 (hts _ mf_X10_158) dX10_fault_76 ?_
                  refine lv_aload_n hx hb dX10_fault_79 rfl (lv_at hl 0 rfl) ?_
                  refine w_gI (C := RX10) (T := TX10) (N := 64) (ci := 10) hx hb hts in10 hown hK hP 49 i10.1 i10 rfl (by decide) (hts _ mf_X10_302) dX10_fault_80 ?_
                  refine lv_topi (fun x80 ex80 => ?_)
                  refine lv_iload_n hx hb dX10_fault_83 rfl (lv_at hl 3 rfl) ?_
                  refine w_is (N := 60) hx hb hK hP hS q14.2.1.1 (q14.2.1) (q14.2.2) (by subst hv13 hv11; rw [ex80, up2_o _ _ _ _ _ (by decide), up2_o _ _ _ _ _ (by decide), hm.z (by decide)]; exact vp_in_nI (n := 0) (by decide) (by decide)) dX10_fault_84 (fun v15 H locs hv15 hP hz hS => ?_)
                  refine lv_aload_n hx hb dX10_fault_85 rfl (lv_at hl 0 rfl) ?_
                  have q16 := ch10_53 i10
                  refine w_gR (C := RX10) (T := TX10) (N := 64) (ci := 10) hx hb hts in10 hown hK hP 53 i10.1 i10 rfl (by decide) q16.1 (hts _ mf_X10_161) dX10_fault_86 ?_
                  refine lv_aload_n hx hb dX10_fault_89 rfl (lv_at hl 0 rfl) ?_
                  refine w_gI (C := RX10) (T := TX10) (N := 64) (ci := 10) hx hb hts in10 hown hK hP 49 i10.1 i10 rfl (by decide) (hts _ mf_X10_302) dX10_fault_90 ?_
                  refine lv_topi (fun x90 ex90 => ?_)
                  refine lv_iload hx hb dX10_fault_93 (lv_at hl 4 rfl) ?_
                  refine w_is (N := 60) hx hb hK hP hS q16.2.1.1 (q16.2.1) (q16.2.2) (by subst hv15 hv13 hv11; rw [ex90, up2_o _ _ _ _ _ (by decide), up2_o _ _ _ _ _ (by decide), up2_o _ _ _ _ _ (by decide), hm.z (by decide)]; exact vp_in_nI (n := 0) (by decide) (by decide)) dX10_fault_95 (fun v17 H locs hv17 hP hz hS => ?_)
                  refine lv_aload_n hx hb dX10_fault_96 rfl (lv_at hl 0 rfl) ?_
                  refine lv_dup hx hb dX10_fault_97 rfl ?_
                  refine w_gI (C := RX10) (T := TX10) (N := 64) (ci := 10) hx hb hts in10 hown hK hP 49 i10.1 i10 rfl (by decide) (hts _ mf_X10_302) dX10_fault_98 ?_
                  refine lv_topi (fun x98 ex98 => ?_)
                  refine lv_iconst (v := 1) hx hb dX10_fault_101 (by decide) ?_
                  refine lv_iadd hx hb dX10_fault_102 ?_
                  refine lv_topi (fun x102 ex102 => ?_)
                  refine w_pI (C := RX10) (T := TX10) (N := 64) (ci := 10) hx hb hts in10 tyX10 tyX10_ok nmX10 hown hK hP hS 49 i10.1 i10 rfl (by decide) (hts _ mf_X10_302) rfl (ty := .int) (by decide +kernel) rfl rfl dX10_fault_103 (fun v18 H locs hv18 hP hz hS => ?_)
                  refine lv_aload_n hx hb dX10_fault_106 rfl (lv_at hl 0 rfl) ?_
                  refine w_gI (C := RX10) (T := TX10) (N := 64) (ci := 10) hx hb hts in10 hown hK hP 49 i10.1 i10 rfl (by decide) (hts _ mf_X10_302) dX10_fault_107 ?_
                  refine lv_topi (fun x107 ex107 => ?_)
                  exact W.iret (v := x107) hx hb hr (fun t ht hW => ⟨⟨x107, v18, rfl, Or.inl ⟨hok, by subst hv18 hv17 hv15 hv13 hv11; rw [ex107, up2_s, ex102, ex98, up2_o _ _ _ _ _ (by decide), up2_o _ _ _ _ _ (by decide), up2_o _ _ _ _ _ (by decide), up2_o _ _ _ _ _ (by decide), hm.z (by decide)]; rfl⟩, by rw [ht]; exact hP, va_K.moved hW.alike hK⟩, hS.F ht⟩) hS.2.2 dX10_fault_110
                · exact absurd c49 (by rw [ex44, hm.z (by decide)]; decide)
              · refine lv_iconst (v := -1) hx hb dX10_fault_41 (by decide) ?_
                exact W.iret (v := (-1)) hx hb hr (fun t ht hW => ⟨⟨(-1), v, rfl, Or.inr ⟨fun q => by first | exact q.1 c2 | exact absurd q.2.1 (Int32.not_le.mpr c7) | exact q.2.2.1 (by have w := c15; rw [ex12, hm.z (by decide)] at w; exact w) | exact (q.2.2.2 c20).1 c24 | exact (q.2.2.2 c20).2.1 c30 | exact c38 (q.2.2.2 c20).2.2, rfl⟩, by rw [ht]; exact hP, va_K.moved hW.alike hK⟩, hS.F ht⟩) hS.2.2 dX10_fault_42
set_option maxHeartbeats 4000000 in
set_option maxRecDepth 100000 in
/-- credit(end) on a new object -/
theorem k_credit0 (l : Launch) (dC : Nat → ClassId) (dI : Nat → Nat → Nat) (base : Nat) (cy : Nat → ClassId) (v : VV) (hm : Fm v) (p1 : Int32) (j : Nat) (hj : p1 = nI j) (hj2 : j < 2) : CI l yX10_credit (.code yX10_credit cX10_credit 4 (some .int) :: TB) { frames := 0, cells := 0, slots := 0, locals := 0 } dC dI base cy [.ref (base + 816), .int p1] v (fun (x : Int32) (v' : VV) => v' = v ∧ x = 6) := by
  refine Met.ofW (cc := cX10_credit) (maxL := 4) (ret := (some .int)) (by decide) rfl ?_
  intro p e s m args below meth c s₁ B hml hv
  obtain ⟨rfl, hP, hK⟩ := hv
  have hx := B.exec
  have hb := B.bytes
  have hr := B.returns
  have hts0 := atoms_spec (ws := (.code yX10_credit cX10_credit 4 (some .int) :: TB)) B.pre
  have hts : ∀ w ∈ TB, w.before ([.ref (base + 816), .int p1]).toArray s = true := fun w h => hts0 w (List.mem_cons_of_mem _ h)
  have hown : s.vm.findClass RX10 = some m.cls := findClass_of_methodNamed B.named
  have hlocks := B.notSynchronized
  have hS : va_S (fun q => base ≤ q) s.heap s.heap [] := va_S.rf
  have hl := lv_entry ([.ref (base + 816), .int p1]) (n := 4) (Nat.le_of_ble_eq_true rfl)
  rw [lg_entry_eq]
  generalize (lg_sl ([.ref (base + 816), .int p1]) ++ List.replicate (4 - (lg_sl ([.ref (base + 816), .int p1])).length) Slot.unset).toArray = ls at hl ⊢
  have hl : lv_has ls 4 [(0, .ref (base + 816)), (1, .int p1)] := hl
  refine lv_iconst (v := 0) hx hb dX10_credit_0 (by decide) ?_
  refine lv_istore_n (lv' := [(2, .int 0), (0, .ref (base + 816)), (1, .int p1)]) hx hb dX10_credit_1 rfl hl (by decide) rfl (fun ls hl => ?_)
  refine lv_iconst (v := 0) hx hb dX10_credit_2 (by decide) ?_
  refine lv_istore_n (lv' := [(3, .int 0), (2, .int 0), (0, .ref (base + 816)), (1, .int p1)]) hx hb dX10_credit_3 rfl hl (by decide) rfl (fun ls hl => ?_)
  refine lv_iload_n hx hb dX10_credit_4 rfl (lv_at hl 0 rfl) ?_
  refine lv_aload_n hx hb dX10_credit_5 rfl (lv_at hl 2 rfl) ?_
  have q1 := ch10_38 i10
  refine w_gR (C := RX10) (T := TX10) (N := 64) (ci := 10) hx hb hts in10 hown hK hP 38 i10.1 i10 rfl (by decide) q1.1 (hts _ mf_X10_122) dX10_credit_6 ?_
  refine lv_iload_n hx hb dX10_credit_9 rfl (lv_at hl 3 rfl) ?_
  refine w_ia (N := 2) hx hb hK hP q1.2.1.1 (q1.2.1) (q1.2.2) (by rw [hj]; exact vp_in_nI hj2 (by decide)) dX10_credit_10 ?_
  refine lv_topi (fun x10 ex10 => ?_)
  refine lv_icmp_ge (tgt := 34) hx hb dX10_credit_11 (by decide) (fun c11 => ?_) (fun c11 => ?_)
  · refine lv_iload_n hx hb dX10_credit_34 rfl (lv_at hl 1 rfl) ?_
    refine lv_bipush (v := 6) hx hb dX10_credit_35 (by decide) ?_
    refine lv_icmp_le (tgt := 44) hx hb dX10_credit_37 (by decide) (fun c37 => ?_) (fun c37 => ?_)
    · refine lv_bipush (v := 6) hx hb dX10_credit_44 (by decide) ?_
      refine lv_iload_n hx hb dX10_credit_46 rfl (lv_at hl 1 rfl) ?_
      refine lv_isub hx hb dX10_credit_47 ?_
      refine lv_topi (fun x47 ex47 => ?_)
      exact W.iret (v := x47) hx hb hr (fun t ht hW => ⟨⟨x47, v, rfl, ⟨rfl, by rw [ex47]; decide⟩, by rw [ht]; exact hP, va_K.moved hW.alike hK⟩, hS.F ht⟩) hS.2.2 dX10_credit_48
    · exact absurd (by decide) c37
  · exact absurd (by rw [ex10, hm.z (by decide)]; decide) c11
set_option maxHeartbeats 4000000 in
set_option maxRecDepth 100000 in
/-- told(end, what) on a new object -/
theorem k_told (l : Launch) (dC : Nat → ClassId) (dI : Nat → Nat → Nat) (base : Nat) (cy : Nat → ClassId) (v : VV) (hm : Fm v) (p1 p2 : Int32) : CI l yX10_told (.code yX10_told cX10_told 3 (some .int) :: TB) { frames := 1, cells := 0, slots := 0, locals := 24 } dC dI base cy [.ref (base + 816), .int p1, .int p2] v (fun (x : Int32) (_ : VV) => x = rE p1 (told0 p2)) := by
  refine Met.ofW (cc := cX10_told) (maxL := 3) (ret := (some .int)) (by decide) rfl ?_
  intro p e s m args below meth c s₁ B hml hv
  obtain ⟨rfl, hP, hK⟩ := hv
  have hx := B.exec
  have hb := B.bytes
  have hr := B.returns
  have hts0 := atoms_spec (ws := (.code yX10_told cX10_told 3 (some .int) :: TB)) B.pre
  have hts : ∀ w ∈ TB, w.before ([.ref (base + 816), .int p1, .int p2]).toArray s = true := fun w h => hts0 w (List.mem_cons_of_mem _ h)
  have hown : s.vm.findClass RX10 = some m.cls := findClass_of_methodNamed B.named
  have hlocks := B.notSynchronized
  have hS : va_S (fun q => base ≤ q) s.heap s.heap [] := va_S.rf
  have hl := lv_entry ([.ref (base + 816), .int p1, .int p2]) (n := 3) (Nat.le_of_ble_eq_true rfl)
  rw [lg_entry_eq]
  generalize (lg_sl ([.ref (base + 816), .int p1, .int p2]) ++ List.replicate (3 - (lg_sl ([.ref (base + 816), .int p1, .int p2])).length) Slot.unset).toArray = ls at hl ⊢
  have hl : lv_has ls 3 [(0, .ref (base + 816)), (1, .int p1), (2, .int p2)] := hl
  refine lv_iload_n hx hb dX10_told_0 rfl (lv_at hl 1 rfl) ?_
  refine kS_I (As := [.int p1]) (rest := []) ⟨hx, hb, hml, hown, hts⟩ (k_isEnd l dC dI base cy v p1) (cwS 1 hts (gS ml_X10_231 mt_X10_isEnd mn_X10 mo_X10_isEnd) rfl rfl rfl (by decide +kernel) ⟨by decide, by decide⟩) hK hP hS rfl hl.1 rfl (Nat.le_of_ble_eq_true rfl) dX10_told_1 ⟨Nat.zero_le _, Nat.zero_le _⟩ (fun x1 v1 H locs hv1 hP hS => ?_)
  rw [hv1.1] at hP
  have ex1 := hv1.2
  refine lv_if_ne (tgt := 9) hx hb dX10_told_4 (by decide) (fun c4 => ?_) (fun c4 => ?_)
  · have hp : p1 = 0 ∨ p1 = 1 := by
      by_cases q : p1 = 0 ∨ p1 = 1
      · exact q
      · rw [ex1, if_neg q] at c4; exact absurd rfl c4
    obtain ⟨j, hj2, hj⟩ := e01 hp
    refine lv_iload_n hx hb dX10_told_9 rfl (lv_at hl 2 rfl) ?_
    by_cases s10_0 : p2 = 0
    · refine lv_tableIn (tgt := 64) hx hb dX10_told_10 (by rw [s10_0]; decide) (by rw [s10_0]; decide) (by rw [s10_0]; rfl) (by decide) ?_
      refine lv_aload_n hx hb dX10_told_64 rfl (lv_at hl 0 rfl) ?_
      have q2 := ch10_1 i10
      refine w_gR (C := RX10) (T := TX10) (N := 64) (ci := 10) hx hb hts in10 hown hK hP 1 i10.1 i10 rfl (by decide) q2.1 (hts _ mf_X10_7) dX10_told_65 ?_
      refine lv_iload_n hx hb dX10_told_68 rfl (lv_at hl 1 rfl) ?_
      refine w_ia (N := 2) hx hb hK hP q2.2.1.1 (q2.2.1) (q2.2.2) (by rw [hj]; exact vp_in_nI hj2 (by decide)) dX10_told_69 ?_
      refine lv_topi (fun x69 ex69 => ?_)
      exact W.iret (v := x69) hx hb hr (fun t ht hW => ⟨⟨x69, v, rfl, by show x69 = rE p1 (told0 p2); rw [rE_y hp, ex69, hm.z (by decide), s10_0]; decide, by rw [ht]; exact hP, va_K.moved hW.alike hK⟩, hS.F ht⟩) hS.2.2 dX10_told_70
    by_cases s10_1 : p2 = 1
    · refine lv_tableIn (tgt := 71) hx hb dX10_told_10 (by rw [s10_1]; decide) (by rw [s10_1]; decide) (by rw [s10_1]; rfl) (by decide) ?_
      refine lv_aload_n hx hb dX10_told_71 rfl (lv_at hl 0 rfl) ?_
      have q3 := ch10_2 i10
      refine w_gR (C := RX10) (T := TX10) (N := 64) (ci := 10) hx hb hts in10 hown hK hP 2 i10.1 i10 rfl (by decide) q3.1 (hts _ mf_X10_13) dX10_told_72 ?_
      refine lv_iload_n hx hb dX10_told_75 rfl (lv_at hl 1 rfl) ?_
      refine w_ia (N := 2) hx hb hK hP q3.2.1.1 (q3.2.1) (q3.2.2) (by rw [hj]; exact vp_in_nI hj2 (by decide)) dX10_told_76 ?_
      refine lv_topi (fun x76 ex76 => ?_)
      exact W.iret (v := x76) hx hb hr (fun t ht hW => ⟨⟨x76, v, rfl, by show x76 = rE p1 (told0 p2); rw [rE_y hp, ex76, hm.z (by decide), s10_1]; decide, by rw [ht]; exact hP, va_K.moved hW.alike hK⟩, hS.F ht⟩) hS.2.2 dX10_told_77
    by_cases s10_2 : p2 = 2
    · refine lv_tableIn (tgt := 78) hx hb dX10_told_10 (by rw [s10_2]; decide) (by rw [s10_2]; decide) (by rw [s10_2]; rfl) (by decide) ?_
      refine lv_aload_n hx hb dX10_told_78 rfl (lv_at hl 0 rfl) ?_
      have q4 := ch10_3 i10
      refine w_gR (C := RX10) (T := TX10) (N := 64) (ci := 10) hx hb hts in10 hown hK hP 3 i10.1 i10 rfl (by decide) q4.1 (hts _ mf_X10_16) dX10_told_79 ?_
      refine lv_iload_n hx hb dX10_told_82 rfl (lv_at hl 1 rfl) ?_
      refine w_ia (N := 2) hx hb hK hP q4.2.1.1 (q4.2.1) (q4.2.2) (by rw [hj]; exact vp_in_nI hj2 (by decide)) dX10_told_83 ?_
      refine lv_topi (fun x83 ex83 => ?_)
      exact W.iret (v := x83) hx hb hr (fun t ht hW => ⟨⟨x83, v, rfl, by show x83 = rE p1 (told0 p2); rw [rE_y hp, ex83, hm.z (by decide), s10_2]; decide, by rw [ht]; exact hP, va_K.moved hW.alike hK⟩, hS.F ht⟩) hS.2.2 dX10_told_84
    by_cases s10_3 : p2 = 3
    · refine lv_tableIn (tgt := 85) hx hb dX10_told_10 (by rw [s10_3]; decide) (by rw [s10_3]; decide) (by rw [s10_3]; rfl) (by decide) ?_
      refine lv_aload_n hx hb dX10_told_85 rfl (lv_at hl 0 rfl) ?_
      have q5 := ch10_22 i10
      refine w_gR (C := RX10) (T := TX10) (N := 64) (ci := 10) hx hb hts in10 hown hK hP 22 i10.1 i10 rfl (by decide) q5.1 (hts _ mf_X10_74) dX10_told_86 ?_
      refine lv_iload_n hx hb dX10_told_89 rfl (lv_at hl 1 rfl) ?_
      refine w_ia (N := 2) hx hb hK hP q5.2.1.1 (q5.2.1) (q5.2.2) (by rw [hj]; exact vp_in_nI hj2 (by decide)) dX10_told_90 ?_
      refine lv_topi (fun x90 ex90 => ?_)
      exact W.iret (v := x90) hx hb hr (fun t ht hW => ⟨⟨x90, v, rfl, by show x90 = rE p1 (told0 p2); rw [rE_y hp, ex90, hm.z (by decide), s10_3]; decide, by rw [ht]; exact hP, va_K.moved hW.alike hK⟩, hS.F ht⟩) hS.2.2 dX10_told_91
    by_cases s10_4 : p2 = 4
    · refine lv_tableIn (tgt := 92) hx hb dX10_told_10 (by rw [s10_4]; decide) (by rw [s10_4]; decide) (by rw [s10_4]; rfl) (by decide) ?_
      refine lv_aload_n hx hb dX10_told_92 rfl (lv_at hl 0 rfl) ?_
      have q6 := ch10_30 i10
      refine w_gR (C := RX10) (T := TX10) (N := 64) (ci := 10) hx hb hts in10 hown hK hP 30 i10.1 i10 rfl (by decide) q6.1 (hts _ mf_X10_98) dX10_told_93 ?_
      refine lv_iload_n hx hb dX10_told_96 rfl (lv_at hl 1 rfl) ?_
      refine w_ia (N := 2) hx hb hK hP q6.2.1.1 (q6.2.1) (q6.2.2) (by rw [hj]; exact vp_in_nI hj2 (by decide)) dX10_told_97 ?_
      refine lv_topi (fun x97 ex97 => ?_)
      exact W.iret (v := x97) hx hb hr (fun t ht hW => ⟨⟨x97, v, rfl, by show x97 = rE p1 (told0 p2); rw [rE_y hp, ex97, hm.z (by decide), s10_4]; decide, by rw [ht]; exact hP, va_K.moved hW.alike hK⟩, hS.F ht⟩) hS.2.2 dX10_told_98
    by_cases s10_5 : p2 = 5
    · refine lv_tableIn (tgt := 99) hx hb dX10_told_10 (by rw [s10_5]; decide) (by rw [s10_5]; decide) (by rw [s10_5]; rfl) (by decide) ?_
      refine lv_aload_n hx hb dX10_told_99 rfl (lv_at hl 0 rfl) ?_
      refine lv_iload_n hx hb dX10_told_100 rfl (lv_at hl 1 rfl) ?_
      refine k_I (As := [.int p1]) (rest := []) ⟨hx, hb, hml, hown, hts⟩ (k_credit0 l dC dI base cy v hm p1 j hj hj2) (cwV 1 hts (gV ml_X10_214 mi_X10_credit mx_X10_credit mn_X10 mo_X10_credit) rfl rfl rfl (by decide +kernel) ⟨by decide, by decide⟩) hK hP hS i10 (by decide) rfl rfl hl.1 rfl (Nat.le_of_ble_eq_true rfl) dX10_told_101 ⟨Nat.zero_le _, Nat.zero_le _⟩ (fun x101 v7 H locs hv7 hP hS => ?_)
      rw [hv7.1] at hP
      have ex101 := hv7.2
      exact W.iret (v := x101) hx hb hr (fun t ht hW => ⟨⟨x101, v, rfl, by show x101 = rE p1 (told0 p2); rw [rE_y hp, ex101, s10_5]; decide, by rw [ht]; exact hP, va_K.moved hW.alike hK⟩, hS.F ht⟩) hS.2.2 dX10_told_104
    by_cases s10_6 : p2 = 6
    · refine lv_tableIn (tgt := 105) hx hb dX10_told_10 (by rw [s10_6]; decide) (by rw [s10_6]; decide) (by rw [s10_6]; rfl) (by decide) ?_
      refine lv_aload_n hx hb dX10_told_105 rfl (lv_at hl 0 rfl) ?_
      have q8 := ch10_23 i10
      refine w_gR (C := RX10) (T := TX10) (N := 64) (ci := 10) hx hb hts in10 hown hK hP 23 i10.1 i10 rfl (by decide) q8.1 (hts _ mf_X10_77) dX10_told_106 ?_
      refine lv_iload_n hx hb dX10_told_109 rfl (lv_at hl 1 rfl) ?_
      refine w_ia (N := 2) hx hb hK hP q8.2.1.1 (q8.2.1) (q8.2.2) (by rw [hj]; exact vp_in_nI hj2 (by decide)) dX10_told_110 ?_
      refine lv_topi (fun x110 ex110 => ?_)
      refine lv_aload_n hx hb dX10_told_111 rfl (lv_at hl 0 rfl) ?_
      have q9 := ch10_24 i10
      refine w_gR (C := RX10) (T := TX10) (N := 64) (ci := 10) hx hb hts in10 hown hK hP 24 i10.1 i10 rfl (by decide) q9.1 (hts _ mf_X10_80) dX10_told_112 ?_
      refine lv_iload_n hx hb dX10_told_115 rfl (lv_at hl 1 rfl) ?_
      refine w_ia (N := 2) hx hb hK hP q9.2.1.1 (q9.2.1) (q9.2.2) (by rw [hj]; exact vp_in_nI hj2 (by decide)) dX10_told_116 ?_
      refine lv_topi (fun x116 ex116 => ?_)
      refine lv_iadd hx hb dX10_told_117 ?_
      refine lv_topi (fun x117 ex117 => ?_)
      refine kS_I (As := [.int x117]) (rest := []) ⟨hx, hb, hml, hown, hts⟩ (k_mod l dC dI base cy v x117) (cwS 1 hts (gS ml_X10_221 mt_X10_mod mn_X10 mo_X10_mod) rfl rfl rfl (by decide +kernel) ⟨by decide, by decide⟩) hK hP hS rfl hl.1 rfl (Nat.le_of_ble_eq_true rfl) dX10_told_118 ⟨Nat.zero_le _, Nat.zero_le _⟩ (fun x118 v10 H locs hv10 hP hS => ?_)
      rw [hv10.1] at hP
      have ex118 := hv10.2
      exact W.iret (v := x118) hx hb hr (fun t ht hW => ⟨⟨x118, v, rfl, by show x118 = rE p1 (told0 p2); rw [rE_y hp, ex118, ex117, ex110, ex116, hm.z (by decide), hm.z (by decide), s10_6]; decide, by rw [ht]; exact hP, va_K.moved hW.alike hK⟩, hS.F ht⟩) hS.2.2 dX10_told_121
    by_cases s10_7 : p2 = 7
    · refine lv_tableIn (tgt := 122) hx hb dX10_told_10 (by rw [s10_7]; decide) (by rw [s10_7]; decide) (by rw [s10_7]; rfl) (by decide) ?_
      refine lv_aload_n hx hb dX10_told_122 rfl (lv_at hl 0 rfl) ?_
      have q11 := ch10_38 i10
      refine w_gR (C := RX10) (T := TX10) (N := 64) (ci := 10) hx hb hts in10 hown hK hP 38 i10.1 i10 rfl (by decide) q11.1 (hts _ mf_X10_122) dX10_told_123 ?_
      refine lv_iload_n hx hb dX10_told_126 rfl (lv_at hl 1 rfl) ?_
      refine w_ia (N := 2) hx hb hK hP q11.2.1.1 (q11.2.1) (q11.2.2) (by rw [hj]; exact vp_in_nI hj2 (by decide)) dX10_told_127 ?_
      refine lv_topi (fun x127 ex127 => ?_)
      exact W.iret (v := x127) hx hb hr (fun t ht hW => ⟨⟨x127, v, rfl, by show x127 = rE p1 (told0 p2); rw [rE_y hp, ex127, hm.z (by decide), s10_7]; decide, by rw [ht]; exact hP, va_K.moved hW.alike hK⟩, hS.F ht⟩) hS.2.2 dX10_told_128
    by_cases s10_8 : p2 = 8
    · refine lv_tableIn (tgt := 129) hx hb dX10_told_10 (by rw [s10_8]; decide) (by rw [s10_8]; decide) (by rw [s10_8]; rfl) (by decide) ?_
      refine lv_aload_n hx hb dX10_told_129 rfl (lv_at hl 0 rfl) ?_
      have q12 := ch10_45 i10
      refine w_gR (C := RX10) (T := TX10) (N := 64) (ci := 10) hx hb hts in10 hown hK hP 45 i10.1 i10 rfl (by decide) q12.1 (hts _ mf_X10_143) dX10_told_130 ?_
      refine lv_iload_n hx hb dX10_told_133 rfl (lv_at hl 1 rfl) ?_
      refine w_ia (N := 2) hx hb hK hP q12.2.1.1 (q12.2.1) (q12.2.2) (by rw [hj]; exact vp_in_nI hj2 (by decide)) dX10_told_134 ?_
      refine lv_topi (fun x134 ex134 => ?_)
      exact W.iret (v := x134) hx hb hr (fun t ht hW => ⟨⟨x134, v, rfl, by show x134 = rE p1 (told0 p2); rw [rE_y hp, ex134, hm.z (by decide), s10_8]; decide, by rw [ht]; exact hP, va_K.moved hW.alike hK⟩, hS.F ht⟩) hS.2.2 dX10_told_135
    by_cases s10_9 : p2 = 9
    · refine lv_tableIn (tgt := 136) hx hb dX10_told_10 (by rw [s10_9]; decide) (by rw [s10_9]; decide) (by rw [s10_9]; rfl) (by decide) ?_
      refine lv_aload_n hx hb dX10_told_136 rfl (lv_at hl 0 rfl) ?_
      have q13 := ch10_5 i10
      refine w_gR (C := RX10) (T := TX10) (N := 64) (ci := 10) hx hb hts in10 hown hK hP 5 i10.1 i10 rfl (by decide) q13.1 (hts _ mf_X10_23) dX10_told_137 ?_
      refine lv_iload_n hx hb dX10_told_140 rfl (lv_at hl 1 rfl) ?_
      refine w_ia (N := 2) hx hb hK hP q13.2.1.1 (q13.2.1) (q13.2.2) (by rw [hj]; exact vp_in_nI hj2 (by decide)) dX10_told_141 ?_
      refine lv_topi (fun x141 ex141 => ?_)
      exact W.iret (v := x141) hx hb hr (fun t ht hW => ⟨⟨x141, v, rfl, by show x141 = rE p1 (told0 p2); rw [rE_y hp, ex141, hj, nI_clamp (by omega), hm.r hj2, s10_9]; decide, by rw [ht]; exact hP, va_K.moved hW.alike hK⟩, hS.F ht⟩) hS.2.2 dX10_told_142
    refine lv_tableOut (tgt := 143) hx hb dX10_told_10 (by have := lv_neT s10_0 (a := 0) (by decide); have := lv_neT s10_1 (a := 1) (by decide); have := lv_neT s10_2 (a := 2) (by decide); have := lv_neT s10_3 (a := 3) (by decide); have := lv_neT s10_4 (a := 4) (by decide); have := lv_neT s10_5 (a := 5) (by decide); have := lv_neT s10_6 (a := 6) (by decide); have := lv_neT s10_7 (a := 7) (by decide); have := lv_neT s10_8 (a := 8) (by decide); have := lv_neT s10_9 (a := 9) (by decide); omega) (by decide) ?_
    refine lv_iconst (v := -1) hx hb dX10_told_143 (by decide) ?_
    exact W.iret (v := (-1)) hx hb hr (fun t ht hW => ⟨⟨(-1), v, rfl, by rw [rE_y hp]; simp only [told0]; rw [if_neg (by simp_all), if_neg s10_5], by rw [ht]; exact hP, va_K.moved hW.alike hK⟩, hS.F ht⟩) hS.2.2 dX10_told_144
  · have hp : ¬ (p1 = 0 ∨ p1 = 1) := by
      intro q
      rw [ex1, if_pos q] at c4
      exact absurd c4 (by decide)
    refine lv_iconst (v := -1) hx hb dX10_told_7 (by decide) ?_
    exact W.iret (v := (-1)) hx hb hr (fun t ht hW => ⟨⟨(-1), v, rfl, (rE_n hp).symm, by rw [ht]; exact hP, va_K.moved hW.alike hK⟩, hS.F ht⟩) hS.2.2 dX10_told_8
set_option maxHeartbeats 4000000 in
set_option maxRecDepth 100000 in
/-- isDue of a closed end -/
theorem k_isDue0 (l : Launch) (dC : Nat → ClassId) (dI : Nat → Nat → Nat) (base : Nat) (cy : Nat → ClassId) (v : VV) (p1 p2 p3 : Int32) (j : Nat) (hj : p1 = nI j) (hj2 : j < 2) (h0 : v 817 p1.toNatClampNeg = 0) : CI l yX10_isDue (.code yX10_isDue cX10_isDue 4 (some .boolean) :: TB) { frames := 0, cells := 0, slots := 0, locals := 0 } dC dI base cy [.ref (base + 816), .int p1, .int p2, .int p3] v (fun (x : Int32) (v' : VV) => v' = v ∧ x = 0) := by
  refine Met.ofW (cc := cX10_isDue) (maxL := 4) (ret := (some .boolean)) (by decide) rfl ?_
  intro p e s m args below meth c s₁ B hml hv
  obtain ⟨rfl, hP, hK⟩ := hv
  have hx := B.exec
  have hb := B.bytes
  have hr := B.returns
  have hts0 := atoms_spec (ws := (.code yX10_isDue cX10_isDue 4 (some .boolean) :: TB)) B.pre
  have hts : ∀ w ∈ TB, w.before ([.ref (base + 816), .int p1, .int p2, .int p3]).toArray s = true := fun w h => hts0 w (List.mem_cons_of_mem _ h)
  have hown : s.vm.findClass RX10 = some m.cls := findClass_of_methodNamed B.named
  have hlocks := B.notSynchronized
  have hS : va_S (fun q => base ≤ q) s.heap s.heap [] := va_S.rf
  have hl := lv_entry ([.ref (base + 816), .int p1, .int p2, .int p3]) (n := 4) (Nat.le_of_ble_eq_true rfl)
  rw [lg_entry_eq]
  generalize (lg_sl ([.ref (base + 816), .int p1, .int p2, .int p3]) ++ List.replicate (4 - (lg_sl ([.ref (base + 816), .int p1, .int p2, .int p3])).length) Slot.unset).toArray = ls at hl ⊢
  have hl : lv_has ls 4 [(0, .ref (base + 816)), (1, .int p1), (2, .int p2), (3, .int p3)] := hl
  refine lv_aload_n hx hb dX10_isDue_0 rfl (lv_at hl 0 rfl) ?_
  have q1 := ch10_1 i10
  refine w_gR (C := RX10) (T := TX10) (N := 64) (ci := 10) hx hb hts in10 hown hK hP 1 i10.1 i10 rfl (by decide) q1.1 (hts _ mf_X10_7) dX10_isDue_1 ?_
  refine lv_iload_n hx hb dX10_isDue_4 rfl (lv_at hl 1 rfl) ?_
  refine w_ia (N := 2) hx hb hK hP q1.2.1.1 (q1.2.1) (q1.2.2) (by rw [hj]; exact vp_in_nI hj2 (by decide)) dX10_isDue_5 ?_
  refine lv_topi (fun x5 ex5 => ?_)
  refine lv_iconst (v := 1) hx hb dX10_isDue_6 (by decide) ?_
  refine lv_icmp_lt (tgt := 35) hx hb dX10_isDue_7 (by decide) (fun c7 => ?_) (fun c7 => ?_)
  · refine lv_iconst (v := 0) hx hb dX10_isDue_35 (by decide) ?_
    exact W.zret (v := 0) hx hb hr (rfl) (fun t ht hW => ⟨⟨0, v, rfl, ⟨rfl, rfl⟩, by rw [ht]; exact hP, va_K.moved hW.alike hK⟩, hS.F ht⟩) hS.2.2 dX10_isDue_36
  · exact absurd (by rw [ex5, h0]; decide) c7
set_option maxHeartbeats 4000000 in
set_option maxRecDepth 100000 in
/-- resend of a closed end -/
theorem k_resend0 (l : Launch) (dC : Nat → ClassId) (dI : Nat → Nat → Nat) (base : Nat) (cy : Nat → ClassId) (v : VV) (p1 : Int32) (j : Nat) (hj : p1 = nI j) (hj2 : j < 2) (h0 : v 817 p1.toNatClampNeg = 0) (h1 : v 831 p1.toNatClampNeg = 0) : CV l yX10_resend (.code yX10_resend cX10_resend 3 none :: TB) { frames := 1, cells := 0, slots := 0, locals := 23 } dC dI base cy [.ref (base + 816), .int p1] v (fun v' : VV => v' = v) := by
  refine Met.ofW (cc := cX10_resend) (maxL := 3) (ret := none) (by decide) rfl ?_
  intro p e s m args below meth c s₁ B hml hv
  obtain ⟨rfl, hP, hK⟩ := hv
  have hx := B.exec
  have hb := B.bytes
  have hr := B.returns
  have hts0 := atoms_spec (ws := (.code yX10_resend cX10_resend 3 none :: TB)) B.pre
  have hts : ∀ w ∈ TB, w.before ([.ref (base + 816), .int p1]).toArray s = true := fun w h => hts0 w (List.mem_cons_of_mem _ h)
  have hown : s.vm.findClass RX10 = some m.cls := findClass_of_methodNamed B.named
  have hlocks := B.notSynchronized
  have hS : va_S (fun q => base ≤ q) s.heap s.heap [] := va_S.rf
  have hl := lv_entry ([.ref (base + 816), .int p1]) (n := 3) (Nat.le_of_ble_eq_true rfl)
  rw [lg_entry_eq]
  generalize (lg_sl ([.ref (base + 816), .int p1]) ++ List.replicate (3 - (lg_sl ([.ref (base + 816), .int p1])).length) Slot.unset).toArray = ls at hl ⊢
  have hl : lv_has ls 3 [(0, .ref (base + 816)), (1, .int p1)] := hl
  refine lv_aload_n hx hb dX10_resend_0 rfl (lv_at hl 0 rfl) ?_
  refine lv_iload_n hx hb dX10_resend_1 rfl (lv_at hl 1 rfl) ?_
  refine lv_aload_n hx hb dX10_resend_2 rfl (lv_at hl 0 rfl) ?_
  have q1 := ch10_9 i10
  refine w_gR (C := RX10) (T := TX10) (N := 64) (ci := 10) hx hb hts in10 hown hK hP 9 i10.1 i10 rfl (by decide) q1.1 (hts _ mf_X10_35) dX10_resend_3 ?_
  refine lv_iload_n hx hb dX10_resend_6 rfl (lv_at hl 1 rfl) ?_
  refine w_ia (N := 2) hx hb hK hP q1.2.1.1 (q1.2.1) (q1.2.2) (by rw [hj]; exact vp_in_nI hj2 (by decide)) dX10_resend_7 ?_
  refine lv_topi (fun x7 ex7 => ?_)
  refine lv_aload_n hx hb dX10_resend_8 rfl (lv_at hl 0 rfl) ?_
  have q2 := ch10_10 i10
  refine w_gR (C := RX10) (T := TX10) (N := 64) (ci := 10) hx hb hts in10 hown hK hP 10 i10.1 i10 rfl (by decide) q2.1 (hts _ mf_X10_38) dX10_resend_9 ?_
  refine lv_iload_n hx hb dX10_resend_12 rfl (lv_at hl 1 rfl) ?_
  refine w_ia (N := 2) hx hb hK hP q2.2.1.1 (q2.2.1) (q2.2.2) (by rw [hj]; exact vp_in_nI hj2 (by decide)) dX10_resend_13 ?_
  refine lv_topi (fun x13 ex13 => ?_)
  refine k_I (As := [.int p1, .int x7, .int x13]) (rest := []) ⟨hx, hb, hml, hown, hts⟩ (k_isDue0 l dC dI base cy v p1 x7 x13 j hj hj2 h0) (cwV 3 hts (gV ml_X10_321 mi_X10_isDue mx_X10_isDue mn_X10 mo_X10_isDue) rfl rfl rfl (by decide +kernel) ⟨by decide, by decide⟩) hK hP hS i10 (by decide) rfl rfl hl.1 rfl (Nat.le_of_ble_eq_true rfl) dX10_resend_14 ⟨Nat.zero_le _, Nat.zero_le _⟩ (fun x14 v3 H locs hv3 hP hS => ?_)
  rw [hv3.1] at hP
  have ex14 := hv3.2
  refine lv_if_eq (tgt := 88) hx hb dX10_resend_17 (by decide) (fun c17 => ?_) (fun c17 => ?_)
  · refine lv_iconst (v := 0) hx hb dX10_resend_88 (by decide) ?_
    refine lv_istore_n (lv' := [(2, .int 0), (0, .ref (base + 816)), (1, .int p1)]) hx hb dX10_resend_89 rfl hl (by decide) rfl (fun ls hl => ?_)
    refine lv_iload_n hx hb dX10_resend_90 rfl (lv_at hl 0 rfl) ?_
    refine lv_aload_n hx hb dX10_resend_91 rfl (lv_at hl 1 rfl) ?_
    have q4 := ch10_15 i10
    refine w_gR (C := RX10) (T := TX10) (N := 64) (ci := 10) hx hb hts in10 hown hK hP 15 i10.1 i10 rfl (by decide) q4.1 (hts _ mf_X10_53) dX10_resend_92 ?_
    refine lv_iload_n hx hb dX10_resend_95 rfl (lv_at hl 2 rfl) ?_
    refine w_ia (N := 2) hx hb hK hP q4.2.1.1 (q4.2.1) (q4.2.2) (by rw [hj]; exact vp_in_nI hj2 (by decide)) dX10_resend_96 ?_
    refine lv_topi (fun x96 ex96 => ?_)
    refine lv_icmp_ge (tgt := 152) hx hb dX10_resend_97 (by decide) (fun c97 => ?_) (fun c97 => ?_)
    · refine lv_aload_n hx hb dX10_resend_152 rfl (lv_at hl 1 rfl) ?_
      have q5 := ch10_1 i10
      refine w_gR (C := RX10) (T := TX10) (N := 64) (ci := 10) hx hb hts in10 hown hK hP 1 i10.1 i10 rfl (by decide) q5.1 (hts _ mf_X10_7) dX10_resend_153 ?_
      refine lv_iload_n hx hb dX10_resend_156 rfl (lv_at hl 2 rfl) ?_
      refine w_ia (N := 2) hx hb hK hP q5.2.1.1 (q5.2.1) (q5.2.2) (by rw [hj]; exact vp_in_nI hj2 (by decide)) dX10_resend_157 ?_
      refine lv_topi (fun x157 ex157 => ?_)
      refine lv_iconst (v := 2) hx hb dX10_resend_158 (by decide) ?_
      refine lv_icmp_ne (tgt := 196) hx hb dX10_resend_159 (by decide) (fun c159 => ?_) (fun c159 => ?_)
      · exact W.vret hx hb hr (fun t ht hW => ⟨⟨v, rfl, rfl, by rw [ht]; exact hP, va_K.moved hW.alike hK⟩, hS.F ht⟩) hS.2.2 dX10_resend_196
      · exact absurd c159 (by rw [ex157, h0]; decide)
    · exact absurd (by rw [ex96, h1]; decide) c97
  · exact absurd ex14 c17
set_option maxHeartbeats 4000000 in
set_option maxRecDepth 100000 in
/-- step of a closed end -/
theorem k_step0 (l : Launch) (dC : Nat → ClassId) (dI : Nat → Nat → Nat) (base : Nat) (cy : Nat → ClassId) (v : VV) (p1 : Int32) (j : Nat) (hj : p1 = nI j) (hj2 : j < 2) (h0 : v 817 p1.toNatClampNeg = 0) (h1 : v 831 p1.toNatClampNeg = 0) : CV l yX10_step (.code yX10_step cX10_step 2 none :: TB) { frames := 2, cells := 0, slots := 0, locals := 45 } dC dI base cy [.ref (base + 816), .int p1] v (fun v' : VV => v' = v) := by
  refine Met.ofW (cc := cX10_step) (maxL := 2) (ret := none) (by decide) rfl ?_
  intro p e s m args below meth c s₁ B hml hv
  obtain ⟨rfl, hP, hK⟩ := hv
  have hx := B.exec
  have hb := B.bytes
  have hr := B.returns
  have hts0 := atoms_spec (ws := (.code yX10_step cX10_step 2 none :: TB)) B.pre
  have hts : ∀ w ∈ TB, w.before ([.ref (base + 816), .int p1]).toArray s = true := fun w h => hts0 w (List.mem_cons_of_mem _ h)
  have hown : s.vm.findClass RX10 = some m.cls := findClass_of_methodNamed B.named
  have hlocks := B.notSynchronized
  have hS : va_S (fun q => base ≤ q) s.heap s.heap [] := va_S.rf
  have hl := lv_entry ([.ref (base + 816), .int p1]) (n := 2) (Nat.le_of_ble_eq_true rfl)
  rw [lg_entry_eq]
  generalize (lg_sl ([.ref (base + 816), .int p1]) ++ List.replicate (2 - (lg_sl ([.ref (base + 816), .int p1])).length) Slot.unset).toArray = ls at hl ⊢
  have hl : lv_has ls 2 [(0, .ref (base + 816)), (1, .int p1)] := hl
  refine lv_aload_n hx hb dX10_step_0 rfl (lv_at hl 0 rfl) ?_
  refine lv_iload_n hx hb dX10_step_1 rfl (lv_at hl 1 rfl) ?_
  refine k_V (As := [.int p1]) (rest := []) ⟨hx, hb, hml, hown, hts⟩ (k_resend0 l dC dI base cy v p1 j hj hj2 h0 h1) (cwV 1 hts (gV ml_X10_325 mi_X10_resend mx_X10_resend mn_X10 mo_X10_resend) rfl rfl rfl (by decide +kernel) ⟨by decide, by decide⟩) hK hP hS i10 (by decide) rfl rfl hl.1 rfl (Nat.le_of_ble_eq_true rfl) dX10_step_2 ⟨Nat.zero_le _, Nat.zero_le _⟩ (fun v1 H locs hv1 hP hS => ?_)
  rw [hv1] at hP
  refine lv_aload_n hx hb dX10_step_5 rfl (lv_at hl 0 rfl) ?_
  have q2 := ch10_1 i10
  refine w_gR (C := RX10) (T := TX10) (N := 64) (ci := 10) hx hb hts in10 hown hK hP 1 i10.1 i10 rfl (by decide) q2.1 (hts _ mf_X10_7) dX10_step_6 ?_
  refine lv_iload_n hx hb dX10_step_9 rfl (lv_at hl 1 rfl) ?_
  refine w_ia (N := 2) hx hb hK hP q2.2.1.1 (q2.2.1) (q2.2.2) (by rw [hj]; exact vp_in_nI hj2 (by decide)) dX10_step_10 ?_
  refine lv_topi (fun x10 ex10 => ?_)
  refine lv_iconst (v := 2) hx hb dX10_step_11 (by decide) ?_
  refine lv_icmp_ne (tgt := 36) hx hb dX10_step_12 (by decide) (fun c12 => ?_) (fun c12 => ?_)
  · refine lv_aload_n hx hb dX10_step_36 rfl (lv_at hl 0 rfl) ?_
    have q3 := ch10_1 i10
    refine w_gR (C := RX10) (T := TX10) (N := 64) (ci := 10) hx hb hts in10 hown hK hP 1 i10.1 i10 rfl (by decide) q3.1 (hts _ mf_X10_7) dX10_step_37 ?_
    refine lv_iload_n hx hb dX10_step_40 rfl (lv_at hl 1 rfl) ?_
    refine w_ia (N := 2) hx hb hK hP q3.2.1.1 (q3.2.1) (q3.2.2) (by rw [hj]; exact vp_in_nI hj2 (by decide)) dX10_step_41 ?_
    refine lv_topi (fun x41 ex41 => ?_)
    refine lv_iconst (v := 2) hx hb dX10_step_42 (by decide) ?_
    refine lv_icmp_ne (tgt := 67) hx hb dX10_step_43 (by decide) (fun c43 => ?_) (fun c43 => ?_)
    · refine lv_aload_n hx hb dX10_step_67 rfl (lv_at hl 0 rfl) ?_
      have q4 := ch10_1 i10
      refine w_gR (C := RX10) (T := TX10) (N := 64) (ci := 10) hx hb hts in10 hown hK hP 1 i10.1 i10 rfl (by decide) q4.1 (hts _ mf_X10_7) dX10_step_68 ?_
      refine lv_iload_n hx hb dX10_step_71 rfl (lv_at hl 1 rfl) ?_
      refine w_ia (N := 2) hx hb hK hP q4.2.1.1 (q4.2.1) (q4.2.2) (by rw [hj]; exact vp_in_nI hj2 (by decide)) dX10_step_72 ?_
      refine lv_topi (fun x72 ex72 => ?_)
      refine lv_iconst (v := 4) hx hb dX10_step_73 (by decide) ?_
      refine lv_icmp_ne (tgt := 100) hx hb dX10_step_74 (by decide) (fun c74 => ?_) (fun c74 => ?_)
      · exact W.vret hx hb hr (fun t ht hW => ⟨⟨v, rfl, rfl, by rw [ht]; exact hP, va_K.moved hW.alike hK⟩, hS.F ht⟩) hS.2.2 dX10_step_100
      · exact absurd c74 (by rw [ex72, h0]; decide)
    · exact absurd c43 (by rw [ex41, h0]; decide)
  · exact absurd c12 (by rw [ex10, h0]; decide)
set_option maxHeartbeats 4000000 in
set_option maxRecDepth 100000 in
/-- arriveAll where nothing was sent -/
theorem k_arriveAll0 (l : Launch) (dC : Nat → ClassId) (dI : Nat → Nat → Nat) (base : Nat) (cy : Nat → ClassId) (v : VV) (h54 : v 816 54 = 0) (h55 : v 816 55 = 0) : CV l yX10_arriveAll (.code yX10_arriveAll cX10_arriveAll 6 none :: TB) { frames := 0, cells := 0, slots := 0, locals := 0 } dC dI base cy [.ref (base + 816)] v (fun v' : VV => v' = v) := by
  refine Met.ofW (cc := cX10_arriveAll) (maxL := 6) (ret := none) (by decide) rfl ?_
  intro p e s m args below meth c s₁ B hml hv
  obtain ⟨rfl, hP, hK⟩ := hv
  have hx := B.exec
  have hb := B.bytes
  have hr := B.returns
  have hts0 := atoms_spec (ws := (.code yX10_arriveAll cX10_arriveAll 6 none :: TB)) B.pre
  have hts : ∀ w ∈ TB, w.before ([.ref (base + 816)]).toArray s = true := fun w h => hts0 w (List.mem_cons_of_mem _ h)
  have hown : s.vm.findClass RX10 = some m.cls := findClass_of_methodNamed B.named
  have hlocks := B.notSynchronized
  have hS : va_S (fun q => base ≤ q) s.heap s.heap [] := va_S.rf
  have hl := lv_entry ([.ref (base + 816)]) (n := 6) (Nat.le_of_ble_eq_true rfl)
  rw [lg_entry_eq]
  generalize (lg_sl ([.ref (base + 816)]) ++ List.replicate (6 - (lg_sl ([.ref (base + 816)])).length) Slot.unset).toArray = ls at hl ⊢
  have hl : lv_has ls 6 [(0, .ref (base + 816))] := hl
  refine lv_aload_n hx hb dX10_arriveAll_0 rfl (lv_at hl 0 rfl) ?_
  refine w_gI (C := RX10) (T := TX10) (N := 64) (ci := 10) hx hb hts in10 hown hK hP 54 i10.1 i10 rfl (by decide) (hts _ mf_X10_195) dX10_arriveAll_1 ?_
  refine lv_topi (fun x1 ex1 => ?_)
  refine lv_istore_n (lv' := [(1, .int x1), (0, .ref (base + 816))]) hx hb dX10_arriveAll_4 rfl hl (by decide) rfl (fun ls hl => ?_)
  refine lv_iconst (v := 0) hx hb dX10_arriveAll_5 (by decide) ?_
  refine lv_istore_n (lv' := [(2, .int 0), (1, .int x1), (0, .ref (base + 816))]) hx hb dX10_arriveAll_6 rfl hl (by decide) rfl (fun ls hl => ?_)
  refine lv_iload_n hx hb dX10_arriveAll_7 rfl (lv_at hl 0 rfl) ?_
  refine lv_iconst (v := 2) hx hb dX10_arriveAll_8 (by decide) ?_
  refine lv_icmp_ge (tgt := 112) hx hb dX10_arriveAll_9 (by decide) (fun c9 => ?_) (fun c9 => ?_)
  · exact absurd c9 (by decide)
  · refine lv_aload_n hx hb dX10_arriveAll_12 rfl (lv_at hl 2 rfl) ?_
    refine w_gI (C := RX10) (T := TX10) (N := 64) (ci := 10) hx hb hts in10 hown hK hP 55 i10.1 i10 rfl (by decide) (hts _ mf_X10_308) dX10_arriveAll_13 ?_
    refine lv_topi (fun x13 ex13 => ?_)
    refine lv_istore_n (lv' := [(3, .int x13), (2, .int 0), (1, .int x1), (0, .ref (base + 816))]) hx hb dX10_arriveAll_16 rfl hl (by decide) rfl (fun ls hl => ?_)
    refine lv_iload_n hx hb dX10_arriveAll_17 rfl (lv_at hl 0 rfl) ?_
    refine lv_iload_n hx hb dX10_arriveAll_18 rfl (lv_at hl 2 rfl) ?_
    refine lv_icmp_ge (tgt := 106) hx hb dX10_arriveAll_19 (by decide) (fun c19 => ?_) (fun c19 => ?_)
    · refine lv_iinc (v := 1) (lv' := [(2, .int 1), (3, .int x13), (1, .int x1), (0, .ref (base + 816))]) hx hb dX10_arriveAll_106 hl (k := 1) rfl (by decide) (by decide) rfl (fun ls hl => ?_)
      refine lv_goto (tgt := 7) hx hb dX10_arriveAll_109 (by decide) ?_
      refine lv_iload_n hx hb dX10_arriveAll_7 rfl (lv_at hl 0 rfl) ?_
      refine lv_iconst (v := 2) hx hb dX10_arriveAll_8 (by decide) ?_
      refine lv_icmp_ge (tgt := 112) hx hb dX10_arriveAll_9 (by decide) (fun c9 => ?_) (fun c9 => ?_)
      · exact absurd c9 (by decide)
      · refine lv_aload_n hx hb dX10_arriveAll_12 rfl (lv_at hl 3 rfl) ?_
        refine w_gI (C := RX10) (T := TX10) (N := 64) (ci := 10) hx hb hts in10 hown hK hP 55 i10.1 i10 rfl (by decide) (hts _ mf_X10_308) dX10_arriveAll_13 ?_
        refine lv_topi (fun x13 ex13 => ?_)
        refine lv_istore_n (lv' := [(3, .int x13), (2, .int 1), (1, .int x1), (0, .ref (base + 816))]) hx hb dX10_arriveAll_16 rfl hl (by decide) rfl (fun ls hl => ?_)
        refine lv_iload_n hx hb dX10_arriveAll_17 rfl (lv_at hl 0 rfl) ?_
        refine lv_iload_n hx hb dX10_arriveAll_18 rfl (lv_at hl 2 rfl) ?_
        refine lv_icmp_ge (tgt := 106) hx hb dX10_arriveAll_19 (by decide) (fun c19 => ?_) (fun c19 => ?_)
        · refine lv_iinc (v := 2) (lv' := [(2, .int 2), (3, .int x13), (1, .int x1), (0, .ref (base + 816))]) hx hb dX10_arriveAll_106 hl (k := 1) rfl (by decide) (by decide) rfl (fun ls hl => ?_)
          refine lv_goto (tgt := 7) hx hb dX10_arriveAll_109 (by decide) ?_
          refine lv_iload_n hx hb dX10_arriveAll_7 rfl (lv_at hl 0 rfl) ?_
          refine lv_iconst (v := 2) hx hb dX10_arriveAll_8 (by decide) ?_
          refine lv_icmp_ge (tgt := 112) hx hb dX10_arriveAll_9 (by decide) (fun c9 => ?_) (fun c9 => ?_)
          · refine lv_aload_n hx hb dX10_arriveAll_112 rfl (lv_at hl 3 rfl) ?_
            refine w_gI (C := RX10) (T := TX10) (N := 64) (ci := 10) hx hb hts in10 hown hK hP 55 i10.1 i10 rfl (by decide) (hts _ mf_X10_308) dX10_arriveAll_113 ?_
            refine lv_topi (fun x113 ex113 => ?_)
            refine lv_iload_n hx hb dX10_arriveAll_116 rfl (lv_at hl 2 rfl) ?_
            refine lv_icmp_ge (tgt := 156) hx hb dX10_arriveAll_117 (by decide) (fun c117 => ?_) (fun c117 => ?_)
            · exact W.vret hx hb hr (fun t ht hW => ⟨⟨v, rfl, rfl, by rw [ht]; exact hP, va_K.moved hW.alike hK⟩, hS.F ht⟩) hS.2.2 dX10_arriveAll_156
            · exact absurd (by rw [ex113, ex1, h54, h55]; decide) c117
          · exact absurd (by decide) c9
        · exact absurd (by rw [ex13, ex1, h54, h55]; decide) c19
    · exact absurd (by rw [ex13, ex1, h54, h55]; decide) c19
set_option maxHeartbeats 4000000 in
set_option maxRecDepth 100000 in
/-- the loop of tick, nothing sent -/
theorem lpk_tick {p : Program} {l : Launch} {e : Env} {R : Room} {s : State} {m : MethodId} {args : Array Value} {below : List Frame} {meth : Method} {c : Code} {cells slots : Nat} {Q : State → Prop} {dC : Nat → ClassId} {dI : Nat → Nat → Nat} {base : Nat} {cy : Nat → ClassId} {H0 : Heap} (hx : p.tables.exec = Jvm.exec) (hb : c.code = cX10_tick) (hml : c.maxLocals = 3) (hown : s.vm.findClass RX10 = some m.cls) (hts : ∀ w ∈ TB, w.before args s = true) (hK : va_K (dC, dI) vwCl (tyL cy) s) (hcs : cells ≤ R.cells ∧ slots ≤ R.slots) (hR : 4 ≤ R.frames ∧ 90 ≤ R.locals) {v0 : VV} (hm : Fm v0) {n : Nat} (hn : n ≤ 20) (hex : ∀ (v : VV) (H : Heap) (locs : List Loc) (ls : Array Slot), v = up2 v0 816 0 (nI n) → lv_has ls 3 [(0, .ref (base + 816))] → va_P (dC, dI) vwCl (Wd base cy rf v 874) H → va_S (fun q => base ≤ q) H0 H locs → W p l e R s m args below meth c H locs cells slots Q (F0 m 65 ls [])) : ∀ (k : Nat) (i : Nat) (v : VV) (H : Heap) (locs : List Loc) (ls : Array Slot), i ≤ n → n + 1 ≤ i + k → v = up2 v0 816 0 (nI i) → lv_has ls 3 [(2, .int (nI i)), (0, .ref (base + 816)), (1, .int (nI n))] → va_P (dC, dI) vwCl (Wd base cy rf v 874) H → va_S (fun q => base ≤ q) H0 H locs → W p l e R s m args below meth c H locs cells slots Q (F0 m 30 ls []) := by
  intro k
  induction k with
  | zero =>
    intro i v H locs ls hi hk hv hl hP hS
    omega
  | succ k ih =>
    intro i v H locs ls hi hk hv hl hP hS
    refine lv_iload_n hx hb dX10_tick_30 rfl (lv_at hl 0 rfl) ?_
    refine lv_iload_n hx hb dX10_tick_31 rfl (lv_at hl 2 rfl) ?_
    refine lv_icmp_ge (tgt := 65) hx hb dX10_tick_32 (by decide) (fun c32 => ?_) (fun c32 => ?_)
    · have r0 : i = n := by
        have := (nI_leI (by omega) (by omega)).mp c32
        omega
      subst r0
      exact hex _ _ _ _ hv (lv_sub hl [1] rfl) hP hS
    · have hi2 : i < n := Nat.lt_of_not_le (fun q => c32 (nI_le q (by omega)))
      refine lv_aload_n hx hb dX10_tick_35 rfl (lv_at hl 1 rfl) ?_
      refine lv_dup hx hb dX10_tick_36 rfl ?_
      refine w_gI (C := RX10) (T := TX10) (N := 64) (ci := 10) hx hb hts in10 hown hK hP 0 i10.1 i10 rfl (by decide) (hts _ mf_X10_198) dX10_tick_37 ?_
      refine lv_topi (fun x37 ex37 => ?_)
      refine lv_iconst (v := 1) hx hb dX10_tick_40 (by decide) ?_
      refine lv_iadd hx hb dX10_tick_41 ?_
      refine lv_topi (fun x41 ex41 => ?_)
      refine w_pI (C := RX10) (T := TX10) (N := 64) (ci := 10) hx hb hts in10 tyX10 tyX10_ok nmX10 hown hK hP hS 0 i10.1 i10 rfl (by decide) (hts _ mf_X10_198) rfl (ty := .int) (by decide +kernel) rfl rfl dX10_tick_42 (fun v1 H locs hv1 hP hz hS => ?_)
      refine lv_aload_n hx hb dX10_tick_45 rfl (lv_at hl 1 rfl) ?_
      refine k_V (As := []) (rest := []) ⟨hx, hb, hml, hown, hts⟩ (k_arriveAll0 l dC dI base cy v1 (by rw [hv1, up2_k _ _ _ _ (by decide), hv, up2_k _ _ _ _ (by decide)]; exact hm.z (by decide) _) (by rw [hv1, up2_k _ _ _ _ (by decide), hv, up2_k _ _ _ _ (by decide)]; exact hm.z (by decide) _)) (cwV 0 hts (gV ml_X10_328 mi_X10_arriveAll mx_X10_arriveAll mn_X10 mo_X10_arriveAll) rfl rfl rfl (by decide +kernel) ⟨Nat.le_trans (by decide) hR.1, Nat.le_trans (by decide) hR.2⟩) hK hP hS i10 (by decide) rfl rfl hl.1 rfl (Nat.le_of_ble_eq_true rfl) dX10_tick_46 hcs (fun v2 H locs hv2 hP hS => ?_)
      rw [hv2] at hP
      refine lv_aload_n hx hb dX10_tick_49 rfl (lv_at hl 1 rfl) ?_
      refine lv_iconst (v := 0) hx hb dX10_tick_50 (by decide) ?_
      refine k_V (As := [.int 0]) (rest := []) ⟨hx, hb, hml, hown, hts⟩ (k_step0 l dC dI base cy v1 0 0 rfl (by decide) (by rw [hv1, up2_o _ _ _ _ _ (by decide), hv, up2_o _ _ _ _ _ (by decide)]; exact hm.z (by decide) _) (by rw [hv1, up2_o _ _ _ _ _ (by decide), hv, up2_o _ _ _ _ _ (by decide)]; exact hm.z (by decide) _)) (cwV 1 hts (gV ml_X10_331 mi_X10_step mx_X10_step mn_X10 mo_X10_step) rfl rfl rfl (by decide +kernel) ⟨Nat.le_trans (by decide) hR.1, Nat.le_trans (by decide) hR.2⟩) hK hP hS i10 (by decide) rfl rfl hl.1 rfl (Nat.le_of_ble_eq_true rfl) dX10_tick_51 hcs (fun v3 H locs hv3 hP hS => ?_)
      rw [hv3] at hP
      refine lv_aload_n hx hb dX10_tick_54 rfl (lv_at hl 1 rfl) ?_
      refine lv_iconst (v := 1) hx hb dX10_tick_55 (by decide) ?_
      refine k_V (As := [.int 1]) (rest := []) ⟨hx, hb, hml, hown, hts⟩ (k_step0 l dC dI base cy v1 1 1 rfl (by decide) (by rw [hv1, up2_o _ _ _ _ _ (by decide), hv, up2_o _ _ _ _ _ (by decide)]; exact hm.z (by decide) _) (by rw [hv1, up2_o _ _ _ _ _ (by decide), hv, up2_o _ _ _ _ _ (by decide)]; exact hm.z (by decide) _)) (cwV 1 hts (gV ml_X10_331 mi_X10_step mx_X10_step mn_X10 mo_X10_step) rfl rfl rfl (by decide +kernel) ⟨Nat.le_trans (by decide) hR.1, Nat.le_trans (by decide) hR.2⟩) hK hP hS i10 (by decide) rfl rfl hl.1 rfl (Nat.le_of_ble_eq_true rfl) dX10_tick_56 hcs (fun v4 H locs hv4 hP hS => ?_)
      rw [hv4] at hP
      obtain ⟨x59, ex59⟩ : ∃ y : Int32, y = (nI i) + 1 := ⟨_, rfl⟩
      refine lv_iinc (v := x59) (lv' := [(2, .int x59), (0, .ref (base + 816)), (1, .int (nI n))]) hx hb dX10_tick_59 hl (k := 0) rfl (by rw [ex59]; first | rfl | (rw [show Int32.ofInt (-1) = (-1 : Int32) from by decide])) (by decide) rfl (fun ls hl => ?_)
      refine lv_goto (tgt := 30) hx hb dX10_tick_62 (by decide) ?_
      exact ih (i + 1) v1 _ _ _ (by omega) (by omega) (by rw [hv1, ex41, ex37, hv, up2_s, nI_1]; funext a b; simp only [up2]; split <;> (try split) <;> simp_all) (by rw [← nI_1 i, ← ex59]; exact lv_sub hl [0, 1, 2] rfl) hP hS
set_option maxHeartbeats 4000000 in
set_option maxRecDepth 100000 in
/-- tick(many) on a new object -/
theorem k_tick (l : Launch) (dC : Nat → ClassId) (dI : Nat → Nat → Nat) (base : Nat) (cy : Nat → ClassId) (v : VV) (hm : Fm v) (p1 : Int32) : CI l yX10_tick (.code yX10_tick cX10_tick 3 (some .int) :: TB) { frames := 4, cells := 0, slots := 0, locals := 90 } dC dI base cy [.ref (base + 816), .int p1] v (fun (x : Int32) (_ : VV) => (tkB p1 ∧ x = p1 ∨ ¬ tkB p1 ∧ x = -1)) := by
  refine Met.ofW (cc := cX10_tick) (maxL := 3) (ret := (some .int)) (by decide) rfl ?_
  intro p e s m args below meth c s₁ B hml hv
  obtain ⟨rfl, hP, hK⟩ := hv
  have hx := B.exec
  have hb := B.bytes
  have hr := B.returns
  have hts0 := atoms_spec (ws := (.code yX10_tick cX10_tick 3 (some .int) :: TB)) B.pre
  have hts : ∀ w ∈ TB, w.before ([.ref (base + 816), .int p1]).toArray s = true := fun w h => hts0 w (List.mem_cons_of_mem _ h)
  have hown : s.vm.findClass RX10 = some m.cls := findClass_of_methodNamed B.named
  have hlocks := B.notSynchronized
  have hS : va_S (fun q => base ≤ q) s.heap s.heap [] := va_S.rf
  have hl := lv_entry ([.ref (base + 816), .int p1]) (n := 3) (Nat.le_of_ble_eq_true rfl)
  rw [lg_entry_eq]
  generalize (lg_sl ([.ref (base + 816), .int p1]) ++ List.replicate (3 - (lg_sl ([.ref (base + 816), .int p1])).length) Slot.unset).toArray = ls at hl ⊢
  have hl : lv_has ls 3 [(0, .ref (base + 816)), (1, .int p1)] := hl
  refine lv_iload_n hx hb dX10_tick_0 rfl (lv_at hl 1 rfl) ?_
  refine lv_iconst (v := 1) hx hb dX10_tick_1 (by decide) ?_
  refine lv_icmp_lt (tgt := 11) hx hb dX10_tick_2 (by decide) (fun c2 => ?_) (fun c2 => ?_)
  · refine lv_iconst (v := -1) hx hb dX10_tick_11 (by decide) ?_
    exact W.iret (v := (-1)) hx hb hr (fun t ht hW => ⟨⟨(-1), v, rfl, Or.inr ⟨fun q => by first | exact q.1 c2 | exact absurd q.2 c8, rfl⟩, by rw [ht]; exact hP, va_K.moved hW.alike hK⟩, hS.F ht⟩) hS.2.2 dX10_tick_12
  · refine lv_iload_n hx hb dX10_tick_5 rfl (lv_at hl 1 rfl) ?_
    refine lv_bipush (v := 20) hx hb dX10_tick_6 (by decide) ?_
    refine lv_icmp_le (tgt := 13) hx hb dX10_tick_8 (by decide) (fun c8 => ?_) (fun c8 => ?_)
    · obtain ⟨n, hn, hn8⟩ : ∃ n : Nat, p1 = nI n ∧ n ≤ 20 := by
        obtain ⟨q, q1, q2⟩ := btw (x := p1) (L := 21) c2 (fun w => absurd (Int32.le_iff_toInt_le.mp c8) (by have := Int32.le_iff_toInt_le.mp w; rw [nI_toInt (by decide)] at this; have : (20 : Int32).toInt = 20 := rfl; omega)) (by decide)
        exact ⟨q + 1, q2, by omega⟩
      refine lv_aload_n hx hb dX10_tick_13 rfl (lv_at hl 0 rfl) ?_
      refine w_gI (C := RX10) (T := TX10) (N := 64) (ci := 10) hx hb hts in10 hown hK hP 0 i10.1 i10 rfl (by decide) (hts _ mf_X10_198) dX10_tick_14 ?_
      refine lv_topi (fun x14 ex14 => ?_)
      refine lv_iload_n hx hb dX10_tick_17 rfl (lv_at hl 1 rfl) ?_
      refine lv_iadd hx hb dX10_tick_18 ?_
      refine lv_topi (fun x18 ex18 => ?_)
      refine lv_sipush (v := 3000) hx hb dX10_tick_19 (by decide) ?_
      refine lv_icmp_le (tgt := 28) hx hb dX10_tick_22 (by decide) (fun c22 => ?_) (fun c22 => ?_)
      · refine lv_iconst (v := 0) hx hb dX10_tick_28 (by decide) ?_
        refine lv_istore_n (lv' := [(2, .int 0), (0, .ref (base + 816)), (1, .int p1)]) hx hb dX10_tick_29 rfl hl (by decide) rfl (fun ls hl => ?_)
        refine lpk_tick hx hb hml hown hts hK ⟨Nat.zero_le _, Nat.zero_le _⟩ ⟨by decide, by decide⟩ hm hn8 (fun w H locs ls hw hl hP hS => ?_) (n + 1) 0 v _ _ _ (by omega) (by omega) (up2_same ((hm.z (by decide) _).trans nI_0.symm)) (by rw [← hn]; exact lv_sub hl [0, 1, 2] rfl) hP hS
        refine lv_aload_n hx hb dX10_tick_65 rfl (lv_at hl 0 rfl) ?_
        refine w_gI (C := RX10) (T := TX10) (N := 64) (ci := 10) hx hb hts in10 hown hK hP 0 i10.1 i10 rfl (by decide) (hts _ mf_X10_198) dX10_tick_66 ?_
        refine lv_topi (fun x66 ex66 => ?_)
        exact W.iret (v := x66) hx hb hr (fun t ht hW => ⟨⟨x66, w, rfl, Or.inl ⟨⟨c2, c8⟩, by rw [ex66, hw, up2_s, hn]⟩, by rw [ht]; exact hP, va_K.moved hW.alike hK⟩, hS.F ht⟩) hS.2.2 dX10_tick_69
      · exact absurd (by
            rw [ex18, ex14, hm.z (by decide), hn, show (0 : Int32) = nI 0 from rfl, nI_add]
            exact nI_le (b := 3000) (by omega) (by decide)) c22
    · refine lv_iconst (v := -1) hx hb dX10_tick_11 (by decide) ?_
      exact W.iret (v := (-1)) hx hb hr (fun t ht hW => ⟨⟨(-1), v, rfl, Or.inr ⟨fun q => by first | exact q.1 c2 | exact absurd q.2 c8, rfl⟩, by rw [ht]; exact hP, va_K.moved hW.alike hK⟩, hS.F ht⟩) hS.2.2 dX10_tick_12
set_option maxHeartbeats 4000000 in
set_option maxRecDepth 100000 in
/-- the loop of type -/
theorem lpk_type {p : Program} {l : Launch} {e : Env} {R : Room} {s : State} {m : MethodId} {args : Array Value} {below : List Frame} {meth : Method} {c : Code} {cells slots : Nat} {Q : State → Prop} {dC : Nat → ClassId} {dI : Nat → Nat → Nat} {base : Nat} {cy : Nat → ClassId} {H0 : Heap} (hx : p.tables.exec = Jvm.exec) (hb : c.code = cX10_type) (hml : c.maxLocals = 5) (hown : s.vm.findClass RX10 = some m.cls) (hts : ∀ w ∈ TB, w.before args s = true) (hK : va_K (dC, dI) vwCl (tyL cy) s) (hcs : cells ≤ R.cells ∧ slots ≤ R.slots) {pb : Int64} {pn : Int32} {n : Nat} (hn : n ≤ 8) (hex : ∀ (v : VV) (H : Heap) (locs : List Loc) (ls : Array Slot), v 816 48 = nI n → lv_has ls 5 [(0, .ref (base + 816))] → va_P (dC, dI) vwCl (Wd base cy rf v 874) H → va_S (fun q => base ≤ q) H0 H locs → W p l e R s m args below meth c H locs cells slots Q (F0 m 74 ls [])) : ∀ (k : Nat) (d r : Nat) (v : VV) (H : Heap) (locs : List Loc) (ls : Array Slot), d + r = n → n + 1 ≤ d + k → v 816 48 = nI d → lv_has ls 5 [(4, .int (nI r - 1)), (0, .ref (base + 816)), (1, .long pb), (3, .int pn)] → va_P (dC, dI) vwCl (Wd base cy rf v 874) H → va_S (fun q => base ≤ q) H0 H locs → W p l e R s m args below meth c H locs cells slots Q (F0 m 32 ls []) := by
  intro k
  induction k with
  | zero =>
    intro d r v H locs ls h1 hk hd hl hP hS
    omega
  | succ k ih =>
    intro d r v H locs ls h1 hk hd hl hP hS
    refine lv_iload hx hb dX10_type_32 (lv_at hl 0 rfl) ?_
    refine lv_if_lt (tgt := 74) hx hb dX10_type_34 (by decide) (fun c34 => ?_) (fun c34 => ?_)
    · have r0 : r = 0 := by
        cases r with
        | zero => rfl
        | succ q => exact absurd (by rw [nI_pred] at c34; exact c34) (nI_pos (by omega))
      subst r0
      exact hex _ _ _ _ (by rw [hd]; congr 1) (lv_sub hl [1] rfl) hP hS
    · obtain ⟨z, hz1⟩ : ∃ q, r = q + 1 := by
        rcases Nat.eq_zero_or_pos r with q | q
        · rw [q] at c34; exact absurd (by decide) c34
        · exact ⟨r - 1, by omega⟩
      refine lv_aload_n hx hb dX10_type_37 rfl (lv_at hl 1 rfl) ?_
      have q1 := ch10_47 i10
      refine w_gR (C := RX10) (T := TX10) (N := 64) (ci := 10) hx hb hts in10 hown hK hP 47 i10.1 i10 rfl (by decide) q1.1 (hts _ mf_X10_149) dX10_type_38 ?_
      refine lv_aload_n hx hb dX10_type_41 rfl (lv_at hl 1 rfl) ?_
      refine w_gI (C := RX10) (T := TX10) (N := 64) (ci := 10) hx hb hts in10 hown hK hP 48 i10.1 i10 rfl (by decide) (hts _ mf_X10_251) dX10_type_42 ?_
      refine lv_topi (fun x42 ex42 => ?_)
      refine lv_lload_n hx hb dX10_type_45 rfl (lv_at hl 2 rfl) ?_
      refine lv_bipush (v := 8) hx hb dX10_type_46 (by decide) ?_
      refine lv_iload hx hb dX10_type_48 (lv_at hl 0 rfl) ?_
      refine lv_imul hx hb dX10_type_50 ?_
      refine lv_topi (fun x50 ex50 => ?_)
      refine lv_lshr hx hb dX10_type_51 rfl ?_
      refine lv_topl (fun x51 ex51 => ?_)
      refine lv_ldc2 (v := 255) hx hb hown (hts _ mkl_X10_254) dX10_type_52 ?_
      refine lv_land hx hb dX10_type_55 ?_
      refine lv_topl (fun x55 ex55 => ?_)
      refine lv_l2i hx hb dX10_type_56 rfl ?_
      refine lv_topi (fun x56 ex56 => ?_)
      refine w_is (N := 64) hx hb hK hP hS q1.2.1.1 (q1.2.1) (q1.2.2) (by rw [ex42, hd]; exact vp_in_nI (by omega) (by decide)) dX10_type_57 (fun v2 H locs hv2 hP hz hS => ?_)
      refine lv_aload_n hx hb dX10_type_58 rfl (lv_at hl 1 rfl) ?_
      refine lv_dup hx hb dX10_type_59 rfl ?_
      refine w_gI (C := RX10) (T := TX10) (N := 64) (ci := 10) hx hb hts in10 hown hK hP 48 i10.1 i10 rfl (by decide) (hts _ mf_X10_251) dX10_type_60 ?_
      refine lv_topi (fun x60 ex60 => ?_)
      refine lv_iconst (v := 1) hx hb dX10_type_63 (by decide) ?_
      refine lv_iadd hx hb dX10_type_64 ?_
      refine lv_topi (fun x64 ex64 => ?_)
      refine w_pI (C := RX10) (T := TX10) (N := 64) (ci := 10) hx hb hts in10 tyX10 tyX10_ok nmX10 hown hK hP hS 48 i10.1 i10 rfl (by decide) (hts _ mf_X10_251) rfl (ty := .int) (by decide +kernel) rfl rfl dX10_type_65 (fun v3 H locs hv3 hP hz hS => ?_)
      obtain ⟨x68, ex68⟩ : ∃ y : Int32, y = (nI r - 1) + (-1) := ⟨_, rfl⟩
      refine lv_iinc (v := x68) (lv' := [(4, .int x68), (0, .ref (base + 816)), (1, .long pb), (3, .int pn)]) hx hb dX10_type_68 hl (k := 0) rfl (by rw [ex68]; first | rfl | (rw [show Int32.ofInt (-1) = (-1 : Int32) from by decide])) (by decide) rfl (fun ls hl => ?_)
      refine lv_goto (tgt := 32) hx hb dX10_type_71 (by decide) ?_
      exact ih (d + 1) z v3 _ _ _ (by omega) (by omega) (by rw [hv3, up2_s, ex64, ex60, hv2, up2_o _ _ _ _ _ (by decide), hd, nI_1]) (by rw [← m1_ z, ← hz1, ← ex68]; exact lv_sub hl [0, 1, 2, 3] rfl) hP hS
set_option maxHeartbeats 4000000 in
set_option maxRecDepth 100000 in
/-- type(bytes, n) on a new object -/
theorem k_type (l : Launch) (dC : Nat → ClassId) (dI : Nat → Nat → Nat) (base : Nat) (cy : Nat → ClassId) (v : VV) (hm : Fm v) (pb : Int64) (pn : Int32) : CI l yX10_type (.code yX10_type cX10_type 5 (some .int) :: TB) { frames := 0, cells := 0, slots := 0, locals := 0 } dC dI base cy [.ref (base + 816), .long pb, .int pn] v (fun (x : Int32) (_ : VV) => (tyB pn ∧ x = pn ∨ ¬ tyB pn ∧ x = -1)) := by
  refine Met.ofW (cc := cX10_type) (maxL := 5) (ret := (some .int)) (by decide) rfl ?_
  intro p e s m args below meth c s₁ B hml hv
  obtain ⟨rfl, hP, hK⟩ := hv
  have hx := B.exec
  have hb := B.bytes
  have hr := B.returns
  have hts0 := atoms_spec (ws := (.code yX10_type cX10_type 5 (some .int) :: TB)) B.pre
  have hts : ∀ w ∈ TB, w.before ([.ref (base + 816), .long pb, .int pn]).toArray s = true := fun w h => hts0 w (List.mem_cons_of_mem _ h)
  have hown : s.vm.findClass RX10 = some m.cls := findClass_of_methodNamed B.named
  have hlocks := B.notSynchronized
  have hS : va_S (fun q => base ≤ q) s.heap s.heap [] := va_S.rf
  have hl := lv_entry ([.ref (base + 816), .long pb, .int pn]) (n := 5) (Nat.le_of_ble_eq_true rfl)
  rw [lg_entry_eq]
  generalize (lg_sl ([.ref (base + 816), .long pb, .int pn]) ++ List.replicate (5 - (lg_sl ([.ref (base + 816), .long pb, .int pn])).length) Slot.unset).toArray = ls at hl ⊢
  have hl : lv_has ls 5 [(0, .ref (base + 816)), (1, .long pb), (3, .int pn)] := hl
  refine lv_iload_n hx hb dX10_type_0 rfl (lv_at hl 2 rfl) ?_
  refine lv_iconst (v := 1) hx hb dX10_type_1 (by decide) ?_
  refine lv_icmp_lt (tgt := 11) hx hb dX10_type_2 (by decide) (fun c2 => ?_) (fun c2 => ?_)
  · refine lv_iconst (v := -1) hx hb dX10_type_11 (by decide) ?_
    exact W.iret (v := (-1)) hx hb hr (fun t ht hW => ⟨⟨(-1), v, rfl, Or.inr ⟨fun q => by first | exact q.1 c2 | exact absurd q.2 c8, rfl⟩, by rw [ht]; exact hP, va_K.moved hW.alike hK⟩, hS.F ht⟩) hS.2.2 dX10_type_12
  · refine lv_iload_n hx hb dX10_type_5 rfl (lv_at hl 2 rfl) ?_
    refine lv_bipush (v := 8) hx hb dX10_type_6 (by decide) ?_
    refine lv_icmp_le (tgt := 13) hx hb dX10_type_8 (by decide) (fun c8 => ?_) (fun c8 => ?_)
    · obtain ⟨n, hn, hn8⟩ : ∃ n : Nat, pn = nI (n + 1) ∧ n + 1 ≤ 8 := by
        obtain ⟨q, q1, q2⟩ := btw (x := pn) (L := 9) c2 (fun w => absurd (Int32.le_iff_toInt_le.mp c8) (by have := Int32.le_iff_toInt_le.mp w; rw [nI_toInt (by decide)] at this; have : (8 : Int32).toInt = 8 := rfl; omega)) (by decide)
        exact ⟨q, q2, by omega⟩
      refine lv_aload_n hx hb dX10_type_13 rfl (lv_at hl 0 rfl) ?_
      refine w_gI (C := RX10) (T := TX10) (N := 64) (ci := 10) hx hb hts in10 hown hK hP 48 i10.1 i10 rfl (by decide) (hts _ mf_X10_251) dX10_type_14 ?_
      refine lv_topi (fun x14 ex14 => ?_)
      refine lv_iload_n hx hb dX10_type_17 rfl (lv_at hl 2 rfl) ?_
      refine lv_iadd hx hb dX10_type_18 ?_
      refine lv_topi (fun x18 ex18 => ?_)
      refine lv_bipush (v := 64) hx hb dX10_type_19 (by decide) ?_
      refine lv_icmp_le (tgt := 27) hx hb dX10_type_21 (by decide) (fun c21 => ?_) (fun c21 => ?_)
      · refine lv_iload_n hx hb dX10_type_27 rfl (lv_at hl 2 rfl) ?_
        refine lv_iconst (v := 1) hx hb dX10_type_28 (by decide) ?_
        refine lv_isub hx hb dX10_type_29 ?_
        refine lv_topi (fun x29 ex29 => ?_)
        refine lv_istore (lv' := [(4, .int x29), (0, .ref (base + 816)), (1, .long pb), (3, .int pn)]) hx hb dX10_type_30 hl (by decide) rfl (fun ls hl => ?_)
        refine lpk_type hx hb hml hown hts hK ⟨Nat.zero_le _, Nat.zero_le _⟩ hn8 (fun w H locs ls hd hl hP hS => ?_) (n + 2) 0 (n + 1) v _ _ _ (by omega) (by omega) (hm.z (by decide) _) (by rw [← hn, ← ex29]; exact lv_sub hl [0, 1, 2, 3] rfl) hP hS
        refine lv_aload_n hx hb dX10_type_74 rfl (lv_at hl 0 rfl) ?_
        refine w_gI (C := RX10) (T := TX10) (N := 64) (ci := 10) hx hb hts in10 hown hK hP 48 i10.1 i10 rfl (by decide) (hts _ mf_X10_251) dX10_type_75 ?_
        refine lv_topi (fun x75 ex75 => ?_)
        exact W.iret (v := x75) hx hb hr (fun t ht hW => ⟨⟨x75, w, rfl, Or.inl ⟨⟨c2, c8⟩, by rw [ex75, hd, hn]⟩, by rw [ht]; exact hP, va_K.moved hW.alike hK⟩, hS.F ht⟩) hS.2.2 dX10_type_78
      · exact absurd (by
            rw [ex18, ex14, hm.z (by decide), hn, show (0 : Int32) = nI 0 from rfl, nI_add]
            exact nI_le (b := 64) (by omega) (by decide)) c21
    · refine lv_iconst (v := -1) hx hb dX10_type_11 (by decide) ?_
      exact W.iret (v := (-1)) hx hb hr (fun t ht hW => ⟨⟨(-1), v, rfl, Or.inr ⟨fun q => by first | exact q.1 c2 | exact absurd q.2 c8, rfl⟩, by rw [ht]; exact hP, va_K.moved hW.alike hK⟩, hS.F ht⟩) hS.2.2 dX10_type_12
