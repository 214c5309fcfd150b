def b_X10_fault_43 (p1 : Int32) (p2 : Int32) (p3 : Int32) (p4 : Int32) (Q : Int32 → VV → Prop) (a1 : Int32) (a2 : Int32) (a3 : Int32) (a4 : Int32) (v : VV) : Prop :=
  ∀ x44 : Int32, x44 = v 816 49 → (¬ x44 = 60 → ∀ x60 : Int32, x60 = v 816 49 → vp_in x60 60 ∧ ∀ v1 : VV, v1 = up2 v 864 (Int32.toNatClampNeg x60) a1 → ∀ x70 : Int32, x70 = v1 816 49 → vp_in x70 60 ∧ ∀ v3 : VV, v3 = up2 v1 865 (Int32.toNatClampNeg x70) a2 → ∀ x80 : Int32, x80 = v3 816 49 → vp_in x80 60 ∧ ∀ v5 : VV, v5 = up2 v3 866 (Int32.toNatClampNeg x80) a3 → ∀ x90 : Int32, x90 = v5 816 49 → vp_in x90 60 ∧ ∀ v7 : VV, v7 = up2 v5 867 (Int32.toNatClampNeg x90) a4 → ∀ x98 : Int32, x98 = v7 816 49 → ∀ x102 : Int32, x102 = x98 + 1 → ∀ v9 : VV, v9 = up2 v7 816 49 x102 → ∀ x107 : Int32, x107 = v9 816 49 → Q x107 v9) ∧ (x44 = 60 → Q ((-3)) v)
set_option maxHeartbeats 4000000 in
set_option maxRecDepth 100000 in
theorem tb_X10_fault_43 {p : Program} {l : Launch} {e : Env} {s : State} {m : MethodId} {args : Array Value} {below : List Frame} {meth : Method} {c : Code} {QQ : State → Prop} {dC : Nat → ClassId} {dI : Nat → Nat → Nat} {base : Nat} {cy : Nat → ClassId} (hx : p.tables.exec = Jvm.exec) (hb : c.code = cX10_fault) (hml : c.maxLocals = 5) (hown : s.vm.findClass RX10 = some m.cls) (hts : ∀ w ∈ TB, w.before args s = true) (hK : va_K (dC, dI) vwCl (tyL cy) s) (p1 : Int32) (p2 : Int32) (p3 : Int32) (p4 : Int32) (Q : Int32 → VV → Prop) (hret : ∀ (pc : Nat) (x : Int32) (v : VV) (H : Heap) (locs : List Loc) (ls : Array Slot), decode cX10_fault pc = .ok (.ireturn, 1) → Q x v → va_P (dC, dI) vwCl (Wd base cy rf v 874) H → va_S (fun q => base ≤ q) s.heap H locs → W p l e { frames := 0, cells := 0, slots := 0, locals := 0 } s m args below meth c H locs 0 0 QQ (F0 m pc ls [.int x])) (a1 : Int32) (a2 : Int32) (a3 : Int32) (a4 : Int32) (v : VV) (H : Heap) (locs : List Loc) (ls : Array Slot) (hw : b_X10_fault_43 p1 p2 p3 p4 Q  a1 a2 a3 a4 v) : lv_has ls 5 [(0, .ref (base + 816)), (1, .int a1), (2, .int a2), (3, .int a3), (4, .int a4)] → va_P (dC, dI) vwCl (Wd base cy rf v 874) H → va_S (fun q => base ≤ q) s.heap H locs → W p l e { frames := 0, cells := 0, slots := 0, locals := 0 } s m args below meth c H locs 0 0 QQ (F0 m 43 ls []) := by
  intro hl hP hS
  refine lv_aload_n hx hb dX10_fault_43 rfl (lv_at hl 0 rfl) ?_
  refine w_gI (C := RX10) (T := TX10) (N := 64) (ci := 10) hx hb hts in10 hown hK hP 49 th10.1 th10 rfl (by decide) (hts _ mf_X10_302) dX10_fault_44 ?_
  refine lv_topi (fun x44 ex44 => ?_)
  have hw := hw x44 ex44
  refine lv_bipush (v := 60) hx hb dX10_fault_47 (by decide) ?_
  refine lv_icmp_ne (tgt := 55) hx hb dX10_fault_49 (by decide) (fun c49 => ?_) (fun c49 => ?_)
  · have hw := hw.1 c49
    refine lv_aload_n hx hb dX10_fault_55 rfl (lv_at hl 0 rfl) ?_
    refine w_gR (C := RX10) (T := TX10) (N := 64) (ci := 10) hx hb hts in10 hown hK hP 50 th10.1 th10 rfl (by decide) (ch10_50 th10).1 (hts _ mf_X10_152) dX10_fault_56 ?_
    refine lv_aload_n hx hb dX10_fault_59 rfl (lv_at hl 0 rfl) ?_
    refine w_gI (C := RX10) (T := TX10) (N := 64) (ci := 10) hx hb hts in10 hown hK hP 49 th10.1 th10 rfl (by decide) (hts _ mf_X10_302) dX10_fault_60 ?_
    refine lv_topi (fun x60 ex60 => ?_)
    have hw := hw x60 ex60
    refine lv_iload_n hx hb dX10_fault_63 rfl (lv_at hl 1 rfl) ?_
    obtain ⟨hi2, hw⟩ := hw
    refine w_is (N := 60) hx hb hK hP hS (ch10_50 th10).2.1.1 (ch10_50 th10).2.1 (ch10_50 th10).2.2 hi2 dX10_fault_64 (fun v1 H locs hv1 hP hz hS => ?_)
    have hw := hw v1 hv1
    refine lv_aload_n hx hb dX10_fault_65 rfl (lv_at hl 0 rfl) ?_
    refine w_gR (C := RX10) (T := TX10) (N := 64) (ci := 10) hx hb hts in10 hown hK hP 51 th10.1 th10 rfl (by decide) (ch10_51 th10).1 (hts _ mf_X10_155) dX10_fault_66 ?_
    refine lv_aload_n hx hb dX10_fault_69 rfl (lv_at hl 0 rfl) ?_
    refine w_gI (C := RX10) (T := TX10) (N := 64) (ci := 10) hx hb hts in10 hown hK hP 49 th10.1 th10 rfl (by decide) (hts _ mf_X10_302) dX10_fault_70 ?_
    refine lv_topi (fun x70 ex70 => ?_)
    have hw := hw x70 ex70
    refine lv_iload_n hx hb dX10_fault_73 rfl (lv_at hl 2 rfl) ?_
    obtain ⟨hi4, hw⟩ := hw
    refine w_is (N := 60) hx hb hK hP hS (ch10_51 th10).2.1.1 (ch10_51 th10).2.1 (ch10_51 th10).2.2 hi4 dX10_fault_74 (fun v3 H locs hv3 hP hz hS => ?_)
    have hw := hw v3 hv3
    refine lv_aload_n hx hb dX10_fault_75 rfl (lv_at hl 0 rfl) ?_
    refine w_gR (C := RX10) (T := TX10) (N := 64) (ci := 10) hx hb hts in10 hown hK hP 52 th10.1 th10 rfl (by decide) (ch10_52 th10).1 (hts _ mf_X10_158) dX10_fault_76 ?_
    refine lv_aload_n hx hb dX10_fault_79 rfl (lv_at hl 0 rfl) ?_
    refine w_gI (C := RX10) (T := TX10) (N := 64) (ci := 10) hx hb hts in10 hown hK hP 49 th10.1 th10 rfl (by decide) (hts _ mf_X10_302) dX10_fault_80 ?_
    refine lv_topi (fun x80 ex80 => ?_)
    have hw := hw x80 ex80
    refine lv_iload_n hx hb dX10_fault_83 rfl (lv_at hl 3 rfl) ?_
    obtain ⟨hi6, hw⟩ := hw
    refine w_is (N := 60) hx hb hK hP hS (ch10_52 th10).2.1.1 (ch10_52 th10).2.1 (ch10_52 th10).2.2 hi6 dX10_fault_84 (fun v5 H locs hv5 hP hz hS => ?_)
    have hw := hw v5 hv5
    refine lv_aload_n hx hb dX10_fault_85 rfl (lv_at hl 0 rfl) ?_
    refine w_gR (C := RX10) (T := TX10) (N := 64) (ci := 10) hx hb hts in10 hown hK hP 53 th10.1 th10 rfl (by decide) (ch10_53 th10).1 (hts _ mf_X10_161) dX10_fault_86 ?_
    refine lv_aload_n hx hb dX10_fault_89 rfl (lv_at hl 0 rfl) ?_
    refine w_gI (C := RX10) (T := TX10) (N := 64) (ci := 10) hx hb hts in10 hown hK hP 49 th10.1 th10 rfl (by decide) (hts _ mf_X10_302) dX10_fault_90 ?_
    refine lv_topi (fun x90 ex90 => ?_)
    have hw := hw x90 ex90
    refine lv_iload hx hb dX10_fault_93 (lv_at hl 4 rfl) ?_
    obtain ⟨hi8, hw⟩ := hw
    refine w_is (N := 60) hx hb hK hP hS (ch10_53 th10).2.1.1 (ch10_53 th10).2.1 (ch10_53 th10).2.2 hi8 dX10_fault_95 (fun v7 H locs hv7 hP hz hS => ?_)
    have hw := hw v7 hv7
    refine lv_aload_n hx hb dX10_fault_96 rfl (lv_at hl 0 rfl) ?_
    refine lv_dup hx hb dX10_fault_97 rfl ?_
    refine w_gI (C := RX10) (T := TX10) (N := 64) (ci := 10) hx hb hts in10 hown hK hP 49 th10.1 th10 rfl (by decide) (hts _ mf_X10_302) dX10_fault_98 ?_
    refine lv_topi (fun x98 ex98 => ?_)
    have hw := hw x98 ex98
    refine lv_iconst (v := 1) hx hb dX10_fault_101 (by decide) ?_
    refine lv_iadd hx hb dX10_fault_102 ?_
    refine lv_topi (fun x102 ex102 => ?_)
    have hw := hw x102 ex102
    refine w_pI (C := RX10) (T := TX10) (N := 64) (ci := 10) hx hb hts in10 tyX10 tyX10_ok nmX10 hown hK hP hS 49 th10.1 th10 rfl (by decide) (hts _ mf_X10_302) rfl (ty := .int) (by decide +kernel) rfl rfl dX10_fault_103 (fun v9 H locs hv9 hP hz hS => ?_)
    have hw := hw v9 hv9
    refine lv_aload_n hx hb dX10_fault_106 rfl (lv_at hl 0 rfl) ?_
    refine w_gI (C := RX10) (T := TX10) (N := 64) (ci := 10) hx hb hts in10 hown hK hP 49 th10.1 th10 rfl (by decide) (hts _ mf_X10_302) dX10_fault_107 ?_
    refine lv_topi (fun x107 ex107 => ?_)
    have hw := hw x107 ex107
    exact hret _ _ _ _ _ _ dX10_fault_110 hw hP hS
  · have hw := hw.2 c49
    refine lv_bipush (v := -3) hx hb dX10_fault_52 (by decide) ?_
    exact hret _ _ _ _ _ _ dX10_fault_54 hw hP hS
def b_X10_fault_41 (p1 : Int32) (p2 : Int32) (p3 : Int32) (p4 : Int32) (Q : Int32 → VV → Prop) (a1 : Int32) (a2 : Int32) (a3 : Int32) (a4 : Int32) (v : VV) : Prop :=
  Q ((-1)) v
set_option maxHeartbeats 4000000 in
set_option maxRecDepth 100000 in
theorem tb_X10_fault_41 {p : Program} {l : Launch} {e : Env} {s : State} {m : MethodId} {args : Array Value} {below : List Frame} {meth : Method} {c : Code} {QQ : State → Prop} {dC : Nat → ClassId} {dI : Nat → Nat → Nat} {base : Nat} {cy : Nat → ClassId} (hx : p.tables.exec = Jvm.exec) (hb : c.code = cX10_fault) (hml : c.maxLocals = 5) (hown : s.vm.findClass RX10 = some m.cls) (hts : ∀ w ∈ TB, w.before args s = true) (hK : va_K (dC, dI) vwCl (tyL cy) s) (p1 : Int32) (p2 : Int32) (p3 : Int32) (p4 : Int32) (Q : Int32 → VV → Prop) (hret : ∀ (pc : Nat) (x : Int32) (v : VV) (H : Heap) (locs : List Loc) (ls : Array Slot), decode cX10_fault pc = .ok (.ireturn, 1) → Q x v → va_P (dC, dI) vwCl (Wd base cy rf v 874) H → va_S (fun q => base ≤ q) s.heap H locs → W p l e { frames := 0, cells := 0, slots := 0, locals := 0 } s m args below meth c H locs 0 0 QQ (F0 m pc ls [.int x])) (a1 : Int32) (a2 : Int32) (a3 : Int32) (a4 : Int32) (v : VV) (H : Heap) (locs : List Loc) (ls : Array Slot) (hw : b_X10_fault_41 p1 p2 p3 p4 Q  a1 a2 a3 a4 v) : lv_has ls 5 [(0, .ref (base + 816)), (1, .int a1), (2, .int a2), (3, .int a3), (4, .int a4)] → va_P (dC, dI) vwCl (Wd base cy rf v 874) H → va_S (fun q => base ≤ q) s.heap H locs → W p l e { frames := 0, cells := 0, slots := 0, locals := 0 } s m args below meth c H locs 0 0 QQ (F0 m 41 ls []) := by
  intro hl hP hS
  refine lv_iconst (v := -1) hx hb dX10_fault_41 (by decide) ?_
  exact hret _ _ _ _ _ _ dX10_fault_42 hw hP hS
def w_X10_fault (p1 : Int32) (p2 : Int32) (p3 : Int32) (p4 : Int32) (v : VV) (Q : Int32 → VV → Prop) : Prop :=
  (p1 < 1 → b_X10_fault_41 p1 p2 p3 p4 Q  p1 p2 p3 p4 v) ∧ (¬ p1 < 1 → (4 < p1 → b_X10_fault_41 p1 p2 p3 p4 Q  p1 p2 p3 p4 v) ∧ (¬ 4 < p1 → ∀ x12 : Int32, x12 = v 816 54 → (p2 < x12 → b_X10_fault_41 p1 p2 p3 p4 Q  p1 p2 p3 p4 v) ∧ (¬ p2 < x12 → (¬ p1 = 4 → b_X10_fault_43 p1 p2 p3 p4 Q  p1 p2 p3 p4 v) ∧ (p1 = 4 → (p3 < 0 → b_X10_fault_41 p1 p2 p3 p4 Q  p1 p2 p3 p4 v) ∧ (¬ p3 < 0 → (p4 < 1 → b_X10_fault_41 p1 p2 p3 p4 Q  p1 p2 p3 p4 v) ∧ (¬ p4 < 1 → (p4 ≤ 255 → b_X10_fault_43 p1 p2 p3 p4 Q  p1 p2 p3 p4 v) ∧ (¬ p4 ≤ 255 → b_X10_fault_41 p1 p2 p3 p4 Q  p1 p2 p3 p4 v)))))))
set_option maxHeartbeats 4000000 in
set_option maxRecDepth 100000 in
/-- TransportFourModel.fault -/
theorem t_X10_fault (l : Launch) (dC : Nat → ClassId) (dI : Nat → Nat → Nat) (base : Nat) (cy : Nat → ClassId) (p1 : Int32) (p2 : Int32) (p3 : Int32) (p4 : Int32) (v : VV) (Q : Int32 → VV → Prop) (hw : w_X10_fault p1 p2 p3 p4 v Q) : CI l yX10_fault (.code yX10_fault cX10_fault 5 (some .int) :: TB) { frames := 0, cells := 0, slots := 0, locals := 0 } dC dI base cy [.ref (base + 816), .int p1, .int p2, .int p3, .int p4] v Q := by
  refine Met.ofW (cc := cX10_fault) (maxL := 5) (ret := (some .int)) (by decide) rfl ?_
  intro p e s m args below meth c s₁ B hml hv
  obtain ⟨rfl, hP, hK⟩ := hv
  have hx := B.exec
  have hb := B.bytes
  have hr := B.returns
  have hts0 := atoms_spec (ws := (.code yX10_fault cX10_fault 5 (some .int) :: TB)) B.pre
  have hts : ∀ w ∈ TB, w.before ([.ref (base + 816), .int p1, .int p2, .int p3, .int p4]).toArray s = true := fun w h => hts0 w (List.mem_cons_of_mem _ h)
  have hown : s.vm.findClass RX10 = some m.cls := findClass_of_methodNamed B.named
  have hlocks := B.notSynchronized
  have hS : va_S (fun q => base ≤ q) s.heap s.heap [] := va_S.rf
  have hl := lv_entry ([.ref (base + 816), .int p1, .int p2, .int p3, .int p4]) (n := 5) (Nat.le_of_ble_eq_true rfl)
  rw [lg_entry_eq]
  generalize (lg_sl ([.ref (base + 816), .int p1, .int p2, .int p3, .int p4]) ++ List.replicate (5 - (lg_sl ([.ref (base + 816), .int p1, .int p2, .int p3, .int p4])).length) Slot.unset).toArray = ls at hl ⊢
  have hl : lv_has ls 5 [(0, .ref (base + 816)), (1, .int p1), (2, .int p2), (3, .int p3), (4, .int p4)] := hl
  have hret : ∀ (pc : Nat) (x : Int32) (v : VV) (H : Heap) (locs : List Loc) (ls : Array Slot), decode cX10_fault pc = .ok (.ireturn, 1) → Q x v → va_P (dC, dI) vwCl (Wd base cy rf v 874) H → va_S (fun q => base ≤ q) s.heap H locs → W p l e { frames := 0, cells := 0, slots := 0, locals := 0 } s m ([.ref (base + 816), .int p1, .int p2, .int p3, .int p4]).toArray below meth c H locs 0 0 (MQ below (va_Qi Q (Hp dC dI base cy) (fun q => base ≤ q)) ([.ref (base + 816), .int p1, .int p2, .int p3, .int p4]).toArray s 0 0 (fun q => base ≤ q)) (F0 m pc ls [.int x]) := fun pc x v H locs ls hd hq hP hS => W.iret (v := x) hx hb hr (fun t ht hW => ⟨⟨x, v, rfl, hq, by rw [ht]; exact hP, va_K.moved hW.alike hK⟩, hS.F ht⟩) hS.2.2 hd
  refine lv_iload_n hx hb dX10_fault_0 rfl (lv_at hl 1 rfl) ?_
  refine lv_iconst (v := 1) hx hb dX10_fault_1 (by decide) ?_
  refine lv_icmp_lt (tgt := 41) hx hb dX10_fault_2 (by decide) (fun c2 => ?_) (fun c2 => ?_)
  · have hw := hw.1 c2
    exact tb_X10_fault_41 hx hb hml hown hts hK p1 p2 p3 p4 _ hret  p1 p2 p3 p4 v _ _ _ hw (lv_sub hl [0, 1, 2, 3, 4] rfl) hP hS
  · have hw := hw.2 c2
    refine lv_iload_n hx hb dX10_fault_5 rfl (lv_at hl 1 rfl) ?_
    refine lv_iconst (v := 4) hx hb dX10_fault_6 (by decide) ?_
    refine lv_icmp_gt (tgt := 41) hx hb dX10_fault_7 (by decide) (fun c7 => ?_) (fun c7 => ?_)
    · have hw := hw.1 c7
      exact tb_X10_fault_41 hx hb hml hown hts hK p1 p2 p3 p4 _ hret  p1 p2 p3 p4 v _ _ _ hw (lv_sub hl [0, 1, 2, 3, 4] rfl) hP hS
    · have hw := hw.2 c7
      refine lv_iload_n hx hb dX10_fault_10 rfl (lv_at hl 2 rfl) ?_
      refine lv_aload_n hx hb dX10_fault_11 rfl (lv_at hl 0 rfl) ?_
      refine w_gI (C := RX10) (T := TX10) (N := 64) (ci := 10) hx hb hts in10 hown hK hP 54 th10.1 th10 rfl (by decide) (hts _ mf_X10_195) dX10_fault_12 ?_
      refine lv_topi (fun x12 ex12 => ?_)
      have hw := hw x12 ex12
      refine lv_icmp_lt (tgt := 41) hx hb dX10_fault_15 (by decide) (fun c15 => ?_) (fun c15 => ?_)
      · have hw := hw.1 c15
        exact tb_X10_fault_41 hx hb hml hown hts hK p1 p2 p3 p4 _ hret  p1 p2 p3 p4 v _ _ _ hw (lv_sub hl [0, 1, 2, 3, 4] rfl) hP hS
      · have hw := hw.2 c15
        refine lv_iload_n hx hb dX10_fault_18 rfl (lv_at hl 1 rfl) ?_
        refine lv_iconst (v := 4) hx hb dX10_fault_19 (by decide) ?_
        refine lv_icmp_ne (tgt := 43) hx hb dX10_fault_20 (by decide) (fun c20 => ?_) (fun c20 => ?_)
        · have hw := hw.1 c20
          exact tb_X10_fault_43 hx hb hml hown hts hK p1 p2 p3 p4 _ hret  p1 p2 p3 p4 v _ _ _ hw (lv_sub hl [0, 1, 2, 3, 4] rfl) hP hS
        · have hw := hw.2 c20
          refine lv_iload_n hx hb dX10_fault_23 rfl (lv_at hl 3 rfl) ?_
          refine lv_if_lt (tgt := 41) hx hb dX10_fault_24 (by decide) (fun c24 => ?_) (fun c24 => ?_)
          · have hw := hw.1 c24
            exact tb_X10_fault_41 hx hb hml hown hts hK p1 p2 p3 p4 _ hret  p1 p2 p3 p4 v _ _ _ hw (lv_sub hl [0, 1, 2, 3, 4] rfl) hP hS
          · have hw := hw.2 c24
            refine lv_iload hx hb dX10_fault_27 (lv_at hl 4 rfl) ?_
            refine lv_iconst (v := 1) hx hb dX10_fault_29 (by decide) ?_
            refine lv_icmp_lt (tgt := 41) hx hb dX10_fault_30 (by decide) (fun c30 => ?_) (fun c30 => ?_)
            · have hw := hw.1 c30
              exact tb_X10_fault_41 hx hb hml hown hts hK p1 p2 p3 p4 _ hret  p1 p2 p3 p4 v _ _ _ hw (lv_sub hl [0, 1, 2, 3, 4] rfl) hP hS
            · have hw := hw.2 c30
              refine lv_iload hx hb dX10_fault_33 (lv_at hl 4 rfl) ?_
              refine lv_sipush (v := 255) hx hb dX10_fault_35 (by decide) ?_
              refine lv_icmp_le (tgt := 43) hx hb dX10_fault_38 (by decide) (fun c38 => ?_) (fun c38 => ?_)
              · have hw := hw.1 c38
                exact tb_X10_fault_43 hx hb hml hown hts hK p1 p2 p3 p4 _ hret  p1 p2 p3 p4 v _ _ _ hw (lv_sub hl [0, 1, 2, 3, 4] rfl) hP hS
              · have hw := hw.2 c38
                exact tb_X10_fault_41 hx hb hml hown hts hK p1 p2 p3 p4 _ hret  p1 p2 p3 p4 v _ _ _ hw (lv_sub hl [0, 1, 2, 3, 4] rfl) hP hS
def b_X10_take_227 (p1 : Int32) (Q : Int32 → VV → Prop) (a1 : Int32) (a2 : Int32) (a3 : Int32) (a4 : Int32) (v : VV) : Prop :=
  Q a3 v
set_option maxHeartbeats 4000000 in
set_option maxRecDepth 100000 in
theorem tb_X10_take_227 {p : Program} {l : Launch} {e : Env} {s : State} {m : MethodId} {args : Array Value} {below : List Frame} {meth : Method} {c : Code} {QQ : State → Prop} {dC : Nat → ClassId} {dI : Nat → Nat → Nat} {base : Nat} {cy : Nat → ClassId} (hx : p.tables.exec = Jvm.exec) (hb : c.code = cX10_take) (hml : c.maxLocals = 6) (hown : s.vm.findClass RX10 = some m.cls) (hts : ∀ w ∈ TB, w.before args s = true) (hK : va_K (dC, dI) vwCl (tyL cy) s) (p1 : Int32) (Q : Int32 → VV → Prop) (hret : ∀ (pc : Nat) (x : Int32) (v : VV) (H : Heap) (locs : List Loc) (ls : Array Slot), decode cX10_take pc = .ok (.ireturn, 1) → Q x v → va_P (dC, dI) vwCl (Wd base cy rf v 874) H → va_S (fun q => base ≤ q) s.heap H locs → W p l e { frames := 4, cells := 0, slots := 0, locals := 88 } s m args below meth c H locs 0 0 QQ (F0 m pc ls [.int x])) (a1 : Int32) (a2 : Int32) (a3 : Int32) (a4 : Int32) (v : VV) (H : Heap) (locs : List Loc) (ls : Array Slot) (hw : b_X10_take_227 p1 Q  a1 a2 a3 a4 v) : lv_has ls 6 [(0, .ref (base + 816)), (1, .int a1), (2, .int a2), (3, .int a3), (4, .int a4)] → va_P (dC, dI) vwCl (Wd base cy rf v 874) H → va_S (fun q => base ≤ q) s.heap H locs → W p l e { frames := 4, cells := 0, slots := 0, locals := 88 } s m args below meth c H locs 0 0 QQ (F0 m 227 ls []) := by
  intro hl hP hS
  refine lv_iload_n hx hb dX10_take_227 rfl (lv_at hl 3 rfl) ?_
  exact hret _ _ _ _ _ _ dX10_take_228 hw hP hS
def b_X10_take_154 (p1 : Int32) (Q : Int32 → VV → Prop) (fu : Nat) : Int32 → Int32 → Int32 → Int32 → VV → Prop :=
  Nat.rec (motive := fun _ => Int32 → Int32 → Int32 → Int32 → VV → Prop) (fun _ _ _ _ _ => False) (fun _ ih a1 a2 a3 a4 v => ∀ x159 : Int32, x159 = 64 * a1 → vp_in a1 2 ∧ ∀ x165 : Int32, x165 = v 854 (Int32.toNatClampNeg a1) → ∀ x166 : Int32, x166 = x159 + x165 → (x166 ≤ a4 → (a2 = 0 → b_X10_take_227 p1 Q  a1 a2 a3 a4 v) ∧ (¬ a2 = 0 → vp_in a1 2 ∧ ∀ x217 : Int32, x217 = v 817 (Int32.toNatClampNeg a1) → (¬ x217 = 2 → b_X10_take_227 p1 Q  a1 a2 a3 a4 v) ∧ (x217 = 2 → w_X10_sendReceipt a1 v (fun (v3 : VV) => b_X10_take_227 p1 Q  a1 a2 a3 a4 v3)))) ∧ (¬ x166 ≤ a4 → ∀ x183 : Int32, x183 = a4 + 1 → vp_in x183 128 ∧ ∀ x184 : Int32, x184 = v 855 (Int32.toNatClampNeg x183) → vp_in a4 128 ∧ ∀ v5 : VV, v5 = up2 v 855 (Int32.toNatClampNeg a4) x184 → ∀ x199 : Int32, x199 = a4 + 1 → vp_in x199 128 ∧ ∀ x200 : Int32, x200 = v5 856 (Int32.toNatClampNeg x199) → vp_in a4 128 ∧ ∀ v8 : VV, v8 = up2 v5 856 (Int32.toNatClampNeg a4) x200 → ∀ x202 : Int32, x202 = a4 + 1 → ih a1 a2 a3 x202 v8)) fu
set_option maxHeartbeats 4000000 in
set_option maxRecDepth 100000 in
theorem tb_X10_take_154 {p : Program} {l : Launch} {e : Env} {s : State} {m : MethodId} {args : Array Value} {below : List Frame} {meth : Method} {c : Code} {QQ : State → Prop} {dC : Nat → ClassId} {dI : Nat → Nat → Nat} {base : Nat} {cy : Nat → ClassId} (hx : p.tables.exec = Jvm.exec) (hb : c.code = cX10_take) (hml : c.maxLocals = 6) (hown : s.vm.findClass RX10 = some m.cls) (hts : ∀ w ∈ TB, w.before args s = true) (hK : va_K (dC, dI) vwCl (tyL cy) s) (p1 : Int32) (Q : Int32 → VV → Prop) (hret : ∀ (pc : Nat) (x : Int32) (v : VV) (H : Heap) (locs : List Loc) (ls : Array Slot), decode cX10_take pc = .ok (.ireturn, 1) → Q x v → va_P (dC, dI) vwCl (Wd base cy rf v 874) H → va_S (fun q => base ≤ q) s.heap H locs → W p l e { frames := 4, cells := 0, slots := 0, locals := 88 } s m args below meth c H locs 0 0 QQ (F0 m pc ls [.int x])) : ∀ (fu : Nat) (a1 : Int32) (a2 : Int32) (a3 : Int32) (a4 : Int32) (v : VV) (H : Heap) (locs : List Loc) (ls : Array Slot), b_X10_take_154 p1 Q  fu a1 a2 a3 a4 v → lv_has ls 6 [(0, .ref (base + 816)), (1, .int a1), (2, .int a2), (3, .int a3), (4, .int a4)] → va_P (dC, dI) vwCl (Wd base cy rf v 874) H → va_S (fun q => base ≤ q) s.heap H locs → W p l e { frames := 4, cells := 0, slots := 0, locals := 88 } s m args below meth c H locs 0 0 QQ (F0 m 154 ls []) := by
  intro fu
  induction fu with
  | zero =>
    intro a1 a2 a3 a4 v H locs ls hw hl hP hS
    exact hw.elim
  | succ fu ih =>
    intro a1 a2 a3 a4 v H locs ls hw hl hP hS
    refine lv_iload hx hb dX10_take_154 (lv_at hl 4 rfl) ?_
    refine lv_bipush (v := 64) hx hb dX10_take_156 (by decide) ?_
    refine lv_iload_n hx hb dX10_take_158 rfl (lv_at hl 1 rfl) ?_
    refine lv_imul hx hb dX10_take_159 ?_
    refine lv_topi (fun x159 ex159 => ?_)
    have hw := hw x159 ex159
    refine lv_aload_n hx hb dX10_take_160 rfl (lv_at hl 0 rfl) ?_
    refine w_gR (C := RX10) (T := TX10) (N := 64) (ci := 10) hx hb hts in10 hown hK hP 38 th10.1 th10 rfl (by decide) (ch10_38 th10).1 (hts _ mf_X10_122) dX10_take_161 ?_
    refine lv_iload_n hx hb dX10_take_164 rfl (lv_at hl 1 rfl) ?_
    obtain ⟨hi1, hw⟩ := hw
    refine w_ia (N := 2) hx hb hK hP (ch10_38 th10).2.1.1 (ch10_38 th10).2.1 (ch10_38 th10).2.2 hi1 dX10_take_165 ?_
    refine lv_topi (fun x165 ex165 => ?_)
    have hw := hw x165 ex165
    refine lv_iadd hx hb dX10_take_166 ?_
    refine lv_topi (fun x166 ex166 => ?_)
    have hw := hw x166 ex166
    refine lv_icmp_ge (tgt := 208) hx hb dX10_take_167 (by decide) (fun c167 => ?_) (fun c167 => ?_)
    · have hw := hw.1 c167
      refine lv_iload_n hx hb dX10_take_208 rfl (lv_at hl 2 rfl) ?_
      refine lv_if_eq (tgt := 227) hx hb dX10_take_209 (by decide) (fun c209 => ?_) (fun c209 => ?_)
      · have hw := hw.1 c209
        exact tb_X10_take_227 hx hb hml hown hts hK p1 _ hret  a1 a2 a3 a4 v _ _ _ hw (lv_sub hl [0, 1, 2, 3, 4] rfl) hP hS
      · have hw := hw.2 c209
        refine lv_aload_n hx hb dX10_take_212 rfl (lv_at hl 0 rfl) ?_
        refine w_gR (C := RX10) (T := TX10) (N := 64) (ci := 10) hx hb hts in10 hown hK hP 1 th10.1 th10 rfl (by decide) (ch10_1 th10).1 (hts _ mf_X10_7) dX10_take_213 ?_
        refine lv_iload_n hx hb dX10_take_216 rfl (lv_at hl 1 rfl) ?_
        obtain ⟨hi2, hw⟩ := hw
        refine w_ia (N := 2) hx hb hK hP (ch10_1 th10).2.1.1 (ch10_1 th10).2.1 (ch10_1 th10).2.2 hi2 dX10_take_217 ?_
        refine lv_topi (fun x217 ex217 => ?_)
        have hw := hw x217 ex217
        refine lv_iconst (v := 2) hx hb dX10_take_218 (by decide) ?_
        refine lv_icmp_ne (tgt := 227) hx hb dX10_take_219 (by decide) (fun c219 => ?_) (fun c219 => ?_)
        · have hw := hw.1 c219
          exact tb_X10_take_227 hx hb hml hown hts hK p1 _ hret  a1 a2 a3 a4 v _ _ _ hw (lv_sub hl [0, 1, 2, 3, 4] rfl) hP hS
        · have hw := hw.2 c219
          refine lv_aload_n hx hb dX10_take_222 rfl (lv_at hl 0 rfl) ?_
          refine lv_iload_n hx hb dX10_take_223 rfl (lv_at hl 1 rfl) ?_
          refine k_V (As := [.int a1]) (rest := []) ⟨hx, hb, hml, hown, hts⟩ (t_X10_sendReceipt l dC dI base cy a1 v _ hw) (cwV 1 hts (gV ml_X10_271 mi_X10_sendReceipt mx_X10_sendReceipt mn_X10 mo_X10_sendReceipt) rfl rfl rfl (by decide +kernel) ⟨by decide, by decide⟩) hK hP hS th10 (by decide) rfl rfl hl.1 rfl (Nat.le_of_ble_eq_true rfl) dX10_take_224 ⟨Nat.zero_le _, Nat.zero_le _⟩ (fun v3 H locs hw hP hS => ?_)
          exact tb_X10_take_227 hx hb hml hown hts hK p1 _ hret  a1 a2 a3 a4 v3 _ _ _ hw (lv_sub hl [0, 1, 2, 3, 4] rfl) hP hS
    · have hw := hw.2 c167
      refine lv_aload_n hx hb dX10_take_170 rfl (lv_at hl 0 rfl) ?_
      refine w_gR (C := RX10) (T := TX10) (N := 64) (ci := 10) hx hb hts in10 hown hK hP 39 th10.1 th10 rfl (by decide) (ch10_39 th10).1 (hts _ mf_X10_125) dX10_take_171 ?_
      refine lv_iload hx hb dX10_take_174 (lv_at hl 4 rfl) ?_
      refine lv_aload_n hx hb dX10_take_176 rfl (lv_at hl 0 rfl) ?_
      refine w_gR (C := RX10) (T := TX10) (N := 64) (ci := 10) hx hb hts in10 hown hK hP 39 th10.1 th10 rfl (by decide) (ch10_39 th10).1 (hts _ mf_X10_125) dX10_take_177 ?_
      refine lv_iload hx hb dX10_take_180 (lv_at hl 4 rfl) ?_
      refine lv_iconst (v := 1) hx hb dX10_take_182 (by decide) ?_
      refine lv_iadd hx hb dX10_take_183 ?_
      refine lv_topi (fun x183 ex183 => ?_)
      have hw := hw x183 ex183
      obtain ⟨hi4, hw⟩ := hw
      refine w_ia (N := 128) hx hb hK hP (ch10_39 th10).2.1.1 (ch10_39 th10).2.1 (ch10_39 th10).2.2 hi4 dX10_take_184 ?_
      refine lv_topi (fun x184 ex184 => ?_)
      have hw := hw x184 ex184
      obtain ⟨hi6, hw⟩ := hw
      refine w_is (N := 128) hx hb hK hP hS (ch10_39 th10).2.1.1 (ch10_39 th10).2.1 (ch10_39 th10).2.2 hi6 dX10_take_185 (fun v5 H locs hv5 hP hz hS => ?_)
      have hw := hw v5 hv5
      refine lv_aload_n hx hb dX10_take_186 rfl (lv_at hl 0 rfl) ?_
      refine w_gR (C := RX10) (T := TX10) (N := 64) (ci := 10) hx hb hts in10 hown hK hP 40 th10.1 th10 rfl (by decide) (ch10_40 th10).1 (hts _ mf_X10_128) dX10_take_187 ?_
      refine lv_iload hx hb dX10_take_190 (lv_at hl 4 rfl) ?_
      refine lv_aload_n hx hb dX10_take_192 rfl (lv_at hl 0 rfl) ?_
      refine w_gR (C := RX10) (T := TX10) (N := 64) (ci := 10) hx hb hts in10 hown hK hP 40 th10.1 th10 rfl (by decide) (ch10_40 th10).1 (hts _ mf_X10_128) dX10_take_193 ?_
      refine lv_iload hx hb dX10_take_196 (lv_at hl 4 rfl) ?_
      refine lv_iconst (v := 1) hx hb dX10_take_198 (by decide) ?_
      refine lv_iadd hx hb dX10_take_199 ?_
      refine lv_topi (fun x199 ex199 => ?_)
      have hw := hw x199 ex199
      obtain ⟨hi7, hw⟩ := hw
      refine w_ia (N := 128) hx hb hK hP (ch10_40 th10).2.1.1 (ch10_40 th10).2.1 (ch10_40 th10).2.2 hi7 dX10_take_200 ?_
      refine lv_topi (fun x200 ex200 => ?_)
      have hw := hw x200 ex200
      obtain ⟨hi9, hw⟩ := hw
      refine w_is (N := 128) hx hb hK hP hS (ch10_40 th10).2.1.1 (ch10_40 th10).2.1 (ch10_40 th10).2.2 hi9 dX10_take_201 (fun v8 H locs hv8 hP hz hS => ?_)
      have hw := hw v8 hv8
      obtain ⟨x202, ex202⟩ : ∃ y : Int32, y = a4 + 1 := ⟨_, rfl⟩
      have hw := hw x202 ex202
      refine lv_iinc (v := x202) (lv' := [(4, .int x202), (0, .ref (base + 816)), (1, .int a1), (2, .int a2), (3, .int a3)]) hx hb dX10_take_202 hl (k := 4) rfl (by rw [ex202]; first | rfl | (rw [show Int32.ofInt (-1) = (-1 : Int32) from by decide])) (by decide) rfl (fun ls hl => ?_)
      refine lv_goto (tgt := 154) hx hb dX10_take_205 (by decide) ?_
      exact ih a1 a2 a3 x202 v8 _ _ _ hw (lv_sub hl [1, 2, 3, 4, 0] rfl) hP hS
def b_X10_take_115 (p1 : Int32) (Q : Int32 → VV → Prop) (K48 : Int32 → Int32 → Int32 → Int32 → VV → Prop) (a1 : Int32) (a2 : Int32) (a3 : Int32) (a4 : Int32) (a5 : Int32) (v : VV) : Prop :=
  ∀ x115 : Int32, x115 = a4 + 1 → K48 a1 a2 a3 x115 v
set_option maxHeartbeats 4000000 in
set_option maxRecDepth 100000 in
theorem tb_X10_take_115 {p : Program} {l : Launch} {e : Env} {s : State} {m : MethodId} {args : Array Value} {below : List Frame} {meth : Method} {c : Code} {QQ : State → Prop} {dC : Nat → ClassId} {dI : Nat → Nat → Nat} {base : Nat} {cy : Nat → ClassId} (hx : p.tables.exec = Jvm.exec) (hb : c.code = cX10_take) (hml : c.maxLocals = 6) (hown : s.vm.findClass RX10 = some m.cls) (hts : ∀ w ∈ TB, w.before args s = true) (hK : va_K (dC, dI) vwCl (tyL cy) s) (p1 : Int32) (Q : Int32 → VV → Prop) (hret : ∀ (pc : Nat) (x : Int32) (v : VV) (H : Heap) (locs : List Loc) (ls : Array Slot), decode cX10_take pc = .ok (.ireturn, 1) → Q x v → va_P (dC, dI) vwCl (Wd base cy rf v 874) H → va_S (fun q => base ≤ q) s.heap H locs → W p l e { frames := 4, cells := 0, slots := 0, locals := 88 } s m args below meth c H locs 0 0 QQ (F0 m pc ls [.int x])) (K48 : Int32 → Int32 → Int32 → Int32 → VV → Prop) (hK48 : ∀ (a1 : Int32) (a2 : Int32) (a3 : Int32) (a4 : Int32) (v : VV) (H : Heap) (locs : List Loc) (ls : Array Slot), K48 a1 a2 a3 a4 v → lv_has ls 6 [(0, .ref (base + 816)), (1, .int a1), (2, .int a2), (3, .int a3), (4, .int a4)] → va_P (dC, dI) vwCl (Wd base cy rf v 874) H → va_S (fun q => base ≤ q) s.heap H locs → W p l e { frames := 4, cells := 0, slots := 0, locals := 88 } s m args below meth c H locs 0 0 QQ (F0 m 48 ls [])) (a1 : Int32) (a2 : Int32) (a3 : Int32) (a4 : Int32) (a5 : Int32) (v : VV) (H : Heap) (locs : List Loc) (ls : Array Slot) (hw : b_X10_take_115 p1 Q K48 a1 a2 a3 a4 a5 v) : lv_has ls 6 [(0, .ref (base + 816)), (1, .int a1), (2, .int a2), (3, .int a3), (4, .int a4), (5, .int a5)] → va_P (dC, dI) vwCl (Wd base cy rf v 874) H → va_S (fun q => base ≤ q) s.heap H locs → W p l e { frames := 4, cells := 0, slots := 0, locals := 88 } s m args below meth c H locs 0 0 QQ (F0 m 115 ls []) := by
  intro hl hP hS
  obtain ⟨x115, ex115⟩ : ∃ y : Int32, y = a4 + 1 := ⟨_, rfl⟩
  have hw := hw x115 ex115
  refine lv_iinc (v := x115) (lv' := [(4, .int x115), (0, .ref (base + 816)), (1, .int a1), (2, .int a2), (3, .int a3), (5, .int a5)]) hx hb dX10_take_115 hl (k := 4) rfl (by rw [ex115]; first | rfl | (rw [show Int32.ofInt (-1) = (-1 : Int32) from by decide])) (by decide) rfl (fun ls hl => ?_)
  refine lv_goto (tgt := 48) hx hb dX10_take_118 (by decide) ?_
  exact hK48 a1 a2 a3 x115 v _ _ _ hw (lv_sub hl [1, 2, 3, 4, 0] rfl) hP hS
def b_X10_take_48 (p1 : Int32) (Q : Int32 → VV → Prop) (fu : Nat) : Int32 → Int32 → Int32 → Int32 → VV → Prop :=
  Nat.rec (motive := fun _ => Int32 → Int32 → Int32 → Int32 → VV → Prop) (fun _ _ _ _ _ => False) (fun _ ih a1 a2 a3 a4 v => vp_in a1 2 ∧ ∀ x55 : Int32, x55 = v 858 (Int32.toNatClampNeg a1) → (x55 ≤ a4 → vp_in a1 2 ∧ ∀ v2 : VV, v2 = up2 v 859 (Int32.toNatClampNeg a1) a3 → vp_in a1 2 ∧ ∀ x134 : Int32, x134 = v2 858 (Int32.toNatClampNeg a1) → ∀ x136 : Int32, x136 = x134 - a3 → vp_in a1 2 ∧ ∀ v5 : VV, v5 = up2 v2 858 (Int32.toNatClampNeg a1) x136 → vp_in a1 2 ∧ ∀ x144 : Int32, x144 = v5 854 (Int32.toNatClampNeg a1) → ∀ x146 : Int32, x146 = x144 - 1 → vp_in a1 2 ∧ ∀ v8 : VV, v8 = up2 v5 854 (Int32.toNatClampNeg a1) x146 → ∀ x151 : Int32, x151 = 64 * a1 → ∃ fu : Nat, b_X10_take_154 p1 Q  fu a1 a2 a3 x151 v8) ∧ (¬ x55 ≤ a4 → ∀ x67 : Int32, x67 = 8192 * a1 → ∀ x70 : Int32, x70 = x67 + a4 → vp_in x70 16384 ∧ ∀ x71 : Int32, x71 = v 857 (Int32.toNatClampNeg x70) → (a3 ≤ a4 → ∀ x106 : Int32, x106 = 8192 * a1 → ∀ x109 : Int32, x109 = x106 + a4 → ∀ x111 : Int32, x111 = x109 - a3 → vp_in x111 16384 ∧ ∀ v11 : VV, v11 = up2 v 857 (Int32.toNatClampNeg x111) x71 → b_X10_take_115 p1 Q ih a1 a2 a3 a4 x71 v11) ∧ (¬ a3 ≤ a4 → ∀ x88 : Int32, x88 = 4096 * a1 → ∀ x91 : Int32, x91 = x88 + a4 → vp_in x91 8192 ∧ ∀ v13 : VV, v13 = up2 v 860 (Int32.toNatClampNeg x91) x71 → b_X10_take_115 p1 Q ih a1 a2 a3 a4 x71 v13))) fu
set_option maxHeartbeats 4000000 in
set_option maxRecDepth 100000 in
theorem tb_X10_take_48 {p : Program} {l : Launch} {e : Env} {s : State} {m : MethodId} {args : Array Value} {below : List Frame} {meth : Method} {c : Code} {QQ : State → Prop} {dC : Nat → ClassId} {dI : Nat → Nat → Nat} {base : Nat} {cy : Nat → ClassId} (hx : p.tables.exec = Jvm.exec) (hb : c.code = cX10_take) (hml : c.maxLocals = 6) (hown : s.vm.findClass RX10 = some m.cls) (hts : ∀ w ∈ TB, w.before args s = true) (hK : va_K (dC, dI) vwCl (tyL cy) s) (p1 : Int32) (Q : Int32 → VV → Prop) (hret : ∀ (pc : Nat) (x : Int32) (v : VV) (H : Heap) (locs : List Loc) (ls : Array Slot), decode cX10_take pc = .ok (.ireturn, 1) → Q x v → va_P (dC, dI) vwCl (Wd base cy rf v 874) H → va_S (fun q => base ≤ q) s.heap H locs → W p l e { frames := 4, cells := 0, slots := 0, locals := 88 } s m args below meth c H locs 0 0 QQ (F0 m pc ls [.int x])) : ∀ (fu : Nat) (a1 : Int32) (a2 : Int32) (a3 : Int32) (a4 : Int32) (v : VV) (H : Heap) (locs : List Loc) (ls : Array Slot), b_X10_take_48 p1 Q  fu a1 a2 a3 a4 v → lv_has ls 6 [(0, .ref (base + 816)), (1, .int a1), (2, .int a2), (3, .int a3), (4, .int a4)] → va_P (dC, dI) vwCl (Wd base cy rf v 874) H → va_S (fun q => base ≤ q) s.heap H locs → W p l e { frames := 4, cells := 0, slots := 0, locals := 88 } s m args below meth c H locs 0 0 QQ (F0 m 48 ls []) := by
  intro fu
  induction fu with
  | zero =>
    intro a1 a2 a3 a4 v H locs ls hw hl hP hS
    exact hw.elim
  | succ fu ih =>
    intro a1 a2 a3 a4 v H locs ls hw hl hP hS
    refine lv_iload hx hb dX10_take_48 (lv_at hl 4 rfl) ?_
    refine lv_aload_n hx hb dX10_take_50 rfl (lv_at hl 0 rfl) ?_
    refine w_gR (C := RX10) (T := TX10) (N := 64) (ci := 10) hx hb hts in10 hown hK hP 42 th10.1 th10 rfl (by decide) (ch10_42 th10).1 (hts _ mf_X10_134) dX10_take_51 ?_
    refine lv_iload_n hx hb dX10_take_54 rfl (lv_at hl 1 rfl) ?_
    obtain ⟨hi1, hw⟩ := hw
    refine w_ia (N := 2) hx hb hK hP (ch10_42 th10).2.1.1 (ch10_42 th10).2.1 (ch10_42 th10).2.2 hi1 dX10_take_55 ?_
    refine lv_topi (fun x55 ex55 => ?_)
    have hw := hw x55 ex55
    refine lv_icmp_ge (tgt := 121) hx hb dX10_take_56 (by decide) (fun c56 => ?_) (fun c56 => ?_)
    · have hw := hw.1 c56
      refine lv_aload_n hx hb dX10_take_121 rfl (lv_at hl 0 rfl) ?_
      refine w_gR (C := RX10) (T := TX10) (N := 64) (ci := 10) hx hb hts in10 hown hK hP 43 th10.1 th10 rfl (by decide) (ch10_43 th10).1 (hts _ mf_X10_137) dX10_take_122 ?_
      refine lv_iload_n hx hb dX10_take_125 rfl (lv_at hl 1 rfl) ?_
      refine lv_iload_n hx hb dX10_take_126 rfl (lv_at hl 3 rfl) ?_
      obtain ⟨hi3, hw⟩ := hw
      refine w_is (N := 2) hx hb hK hP hS (ch10_43 th10).2.1.1 (ch10_43 th10).2.1 (ch10_43 th10).2.2 hi3 dX10_take_127 (fun v2 H locs hv2 hP hz hS => ?_)
      have hw := hw v2 hv2
      refine lv_aload_n hx hb dX10_take_128 rfl (lv_at hl 0 rfl) ?_
      refine w_gR (C := RX10) (T := TX10) (N := 64) (ci := 10) hx hb hts in10 hown hK hP 42 th10.1 th10 rfl (by decide) (ch10_42 th10).1 (hts _ mf_X10_134) dX10_take_129 ?_
      refine lv_iload_n hx hb dX10_take_132 rfl (lv_at hl 1 rfl) ?_
      refine lv_dup2_11 hx hb dX10_take_133 rfl rfl ?_
      obtain ⟨hi4, hw⟩ := hw
      refine w_ia (N := 2) hx hb hK hP (ch10_42 th10).2.1.1 (ch10_42 th10).2.1 (ch10_42 th10).2.2 hi4 dX10_take_134 ?_
      refine lv_topi (fun x134 ex134 => ?_)
      have hw := hw x134 ex134
      refine lv_iload_n hx hb dX10_take_135 rfl (lv_at hl 3 rfl) ?_
      refine lv_isub hx hb dX10_take_136 ?_
      refine lv_topi (fun x136 ex136 => ?_)
      have hw := hw x136 ex136
      obtain ⟨hi6, hw⟩ := hw
      refine w_is (N := 2) hx hb hK hP hS (ch10_42 th10).2.1.1 (ch10_42 th10).2.1 (ch10_42 th10).2.2 hi6 dX10_take_137 (fun v5 H locs hv5 hP hz hS => ?_)
      have hw := hw v5 hv5
      refine lv_aload_n hx hb dX10_take_138 rfl (lv_at hl 0 rfl) ?_
      refine w_gR (C := RX10) (T := TX10) (N := 64) (ci := 10) hx hb hts in10 hown hK hP 38 th10.1 th10 rfl (by decide) (ch10_38 th10).1 (hts _ mf_X10_122) dX10_take_139 ?_
      refine lv_iload_n hx hb dX10_take_142 rfl (lv_at hl 1 rfl) ?_
      refine lv_dup2_11 hx hb dX10_take_143 rfl rfl ?_
      obtain ⟨hi7, hw⟩ := hw
      refine w_ia (N := 2) hx hb hK hP (ch10_38 th10).2.1.1 (ch10_38 th10).2.1 (ch10_38 th10).2.2 hi7 dX10_take_144 ?_
      refine lv_topi (fun x144 ex144 => ?_)
      have hw := hw x144 ex144
      refine lv_iconst (v := 1) hx hb dX10_take_145 (by decide) ?_
      refine lv_isub hx hb dX10_take_146 ?_
      refine lv_topi (fun x146 ex146 => ?_)
      have hw := hw x146 ex146
      obtain ⟨hi9, hw⟩ := hw
      refine w_is (N := 2) hx hb hK hP hS (ch10_38 th10).2.1.1 (ch10_38 th10).2.1 (ch10_38 th10).2.2 hi9 dX10_take_147 (fun v8 H locs hv8 hP hz hS => ?_)
      have hw := hw v8 hv8
      refine lv_bipush (v := 64) hx hb dX10_take_148 (by decide) ?_
      refine lv_iload_n hx hb dX10_take_150 rfl (lv_at hl 1 rfl) ?_
      refine lv_imul hx hb dX10_take_151 ?_
      refine lv_topi (fun x151 ex151 => ?_)
      have hw := hw x151 ex151
      refine lv_istore (lv' := [(4, .int x151), (0, .ref (base + 816)), (1, .int a1), (2, .int a2), (3, .int a3)]) hx hb dX10_take_152 hl (by decide) rfl (fun ls hl => ?_)
      obtain ⟨fu, hw⟩ := hw
      exact tb_X10_take_154 hx hb hml hown hts hK p1 _ hret  fu a1 a2 a3 x151 v8 _ _ _ hw (lv_sub hl [1, 2, 3, 4, 0] rfl) hP hS
    · have hw := hw.2 c56
      refine lv_aload_n hx hb dX10_take_59 rfl (lv_at hl 0 rfl) ?_
      refine w_gR (C := RX10) (T := TX10) (N := 64) (ci := 10) hx hb hts in10 hown hK hP 41 th10.1 th10 rfl (by decide) (ch10_41 th10).1 (hts _ mf_X10_131) dX10_take_60 ?_
      refine lv_sipush (v := 8192) hx hb dX10_take_63 (by decide) ?_
      refine lv_iload_n hx hb dX10_take_66 rfl (lv_at hl 1 rfl) ?_
      refine lv_imul hx hb dX10_take_67 ?_
      refine lv_topi (fun x67 ex67 => ?_)
      have hw := hw x67 ex67
      refine lv_iload hx hb dX10_take_68 (lv_at hl 4 rfl) ?_
      refine lv_iadd hx hb dX10_take_70 ?_
      refine lv_topi (fun x70 ex70 => ?_)
      have hw := hw x70 ex70
      obtain ⟨hi10, hw⟩ := hw
      refine w_ia (N := 16384) hx hb hK hP (ch10_41 th10).2.1.1 (ch10_41 th10).2.1 (ch10_41 th10).2.2 hi10 dX10_take_71 ?_
      refine lv_topi (fun x71 ex71 => ?_)
      have hw := hw x71 ex71
      refine lv_istore (lv' := [(5, .int x71), (0, .ref (base + 816)), (1, .int a1), (2, .int a2), (3, .int a3), (4, .int a4)]) hx hb dX10_take_72 hl (by decide) rfl (fun ls hl => ?_)
      refine lv_iload hx hb dX10_take_74 (lv_at hl 5 rfl) ?_
      refine lv_iload_n hx hb dX10_take_76 rfl (lv_at hl 4 rfl) ?_
      refine lv_icmp_ge (tgt := 98) hx hb dX10_take_77 (by decide) (fun c77 => ?_) (fun c77 => ?_)
      · have hw := hw.1 c77
        refine lv_aload_n hx hb dX10_take_98 rfl (lv_at hl 1 rfl) ?_
        refine w_gR (C := RX10) (T := TX10) (N := 64) (ci := 10) hx hb hts in10 hown hK hP 41 th10.1 th10 rfl (by decide) (ch10_41 th10).1 (hts _ mf_X10_131) dX10_take_99 ?_
        refine lv_sipush (v := 8192) hx hb dX10_take_102 (by decide) ?_
        refine lv_iload_n hx hb dX10_take_105 rfl (lv_at hl 2 rfl) ?_
        refine lv_imul hx hb dX10_take_106 ?_
        refine lv_topi (fun x106 ex106 => ?_)
        have hw := hw x106 ex106
        refine lv_iload hx hb dX10_take_107 (lv_at hl 5 rfl) ?_
        refine lv_iadd hx hb dX10_take_109 ?_
        refine lv_topi (fun x109 ex109 => ?_)
        have hw := hw x109 ex109
        refine lv_iload_n hx hb dX10_take_110 rfl (lv_at hl 4 rfl) ?_
        refine lv_isub hx hb dX10_take_111 ?_
        refine lv_topi (fun x111 ex111 => ?_)
        have hw := hw x111 ex111
        refine lv_iload hx hb dX10_take_112 (lv_at hl 0 rfl) ?_
        obtain ⟨hi12, hw⟩ := hw
        refine w_is (N := 16384) hx hb hK hP hS (ch10_41 th10).2.1.1 (ch10_41 th10).2.1 (ch10_41 th10).2.2 hi12 dX10_take_114 (fun v11 H locs hv11 hP hz hS => ?_)
        have hw := hw v11 hv11
        exact tb_X10_take_115 hx hb hml hown hts hK p1 _ hret _ ih a1 a2 a3 a4 x71 v11 _ _ _ hw (lv_sub hl [1, 2, 3, 4, 5, 0] rfl) hP hS
      · have hw := hw.2 c77
        refine lv_aload_n hx hb dX10_take_80 rfl (lv_at hl 1 rfl) ?_
        refine w_gR (C := RX10) (T := TX10) (N := 64) (ci := 10) hx hb hts in10 hown hK hP 44 th10.1 th10 rfl (by decide) (ch10_44 th10).1 (hts _ mf_X10_140) dX10_take_81 ?_
        refine lv_sipush (v := 4096) hx hb dX10_take_84 (by decide) ?_
        refine lv_iload_n hx hb dX10_take_87 rfl (lv_at hl 2 rfl) ?_
        refine lv_imul hx hb dX10_take_88 ?_
        refine lv_topi (fun x88 ex88 => ?_)
        have hw := hw x88 ex88
        refine lv_iload hx hb dX10_take_89 (lv_at hl 5 rfl) ?_
        refine lv_iadd hx hb dX10_take_91 ?_
        refine lv_topi (fun x91 ex91 => ?_)
        have hw := hw x91 ex91
        refine lv_iload hx hb dX10_take_92 (lv_at hl 0 rfl) ?_
        obtain ⟨hi14, hw⟩ := hw
        refine w_is (N := 8192) hx hb hK hP hS (ch10_44 th10).2.1.1 (ch10_44 th10).2.1 (ch10_44 th10).2.2 hi14 dX10_take_94 (fun v13 H locs hv13 hP hz hS => ?_)
        have hw := hw v13 hv13
        refine lv_goto (tgt := 115) hx hb dX10_take_95 (by decide) ?_
        exact tb_X10_take_115 hx hb hml hown hts hK p1 _ hret _ ih a1 a2 a3 a4 x71 v13 _ _ _ hw (lv_sub hl [1, 2, 3, 4, 5, 0] rfl) hP hS
def b_X10_take_34 (p1 : Int32) (Q : Int32 → VV → Prop) (a1 : Int32) (s0 : Int32) (v : VV) : Prop :=
  ∀ x42 : Int32, x42 = 64 * a1 → vp_in x42 128 ∧ ∀ x43 : Int32, x43 = v 855 (Int32.toNatClampNeg x42) → ∃ fu : Nat, b_X10_take_48 p1 Q  fu a1 s0 x43 0 v
set_option maxHeartbeats 4000000 in
set_option maxRecDepth 100000 in
theorem tb_X10_take_34 {p : Program} {l : Launch} {e : Env} {s : State} {m : MethodId} {args : Array Value} {below : List Frame} {meth : Method} {c : Code} {QQ : State → Prop} {dC : Nat → ClassId} {dI : Nat → Nat → Nat} {base : Nat} {cy : Nat → ClassId} (hx : p.tables.exec = Jvm.exec) (hb : c.code = cX10_take) (hml : c.maxLocals = 6) (hown : s.vm.findClass RX10 = some m.cls) (hts : ∀ w ∈ TB, w.before args s = true) (hK : va_K (dC, dI) vwCl (tyL cy) s) (p1 : Int32) (Q : Int32 → VV → Prop) (hret : ∀ (pc : Nat) (x : Int32) (v : VV) (H : Heap) (locs : List Loc) (ls : Array Slot), decode cX10_take pc = .ok (.ireturn, 1) → Q x v → va_P (dC, dI) vwCl (Wd base cy rf v 874) H → va_S (fun q => base ≤ q) s.heap H locs → W p l e { frames := 4, cells := 0, slots := 0, locals := 88 } s m args below meth c H locs 0 0 QQ (F0 m pc ls [.int x])) (a1 : Int32) (s0 : Int32) (v : VV) (H : Heap) (locs : List Loc) (ls : Array Slot) (hw : b_X10_take_34 p1 Q  a1 s0 v) : lv_has ls 6 [(0, .ref (base + 816)), (1, .int a1)] → va_P (dC, dI) vwCl (Wd base cy rf v 874) H → va_S (fun q => base ≤ q) s.heap H locs → W p l e { frames := 4, cells := 0, slots := 0, locals := 88 } s m args below meth c H locs 0 0 QQ (F0 m 34 ls [.int s0]) := by
  intro hl hP hS
  refine lv_istore_n (lv' := [(2, .int s0), (0, .ref (base + 816)), (1, .int a1)]) hx hb dX10_take_34 rfl hl (by decide) rfl (fun ls hl => ?_)
  refine lv_aload_n hx hb dX10_take_35 rfl (lv_at hl 1 rfl) ?_
  refine w_gR (C := RX10) (T := TX10) (N := 64) (ci := 10) hx hb hts in10 hown hK hP 39 th10.1 th10 rfl (by decide) (ch10_39 th10).1 (hts _ mf_X10_125) dX10_take_36 ?_
  refine lv_bipush (v := 64) hx hb dX10_take_39 (by decide) ?_
  refine lv_iload_n hx hb dX10_take_41 rfl (lv_at hl 2 rfl) ?_
  refine lv_imul hx hb dX10_take_42 ?_
  refine lv_topi (fun x42 ex42 => ?_)
  have hw := hw x42 ex42
  obtain ⟨hi1, hw⟩ := hw
  refine w_ia (N := 128) hx hb hK hP (ch10_39 th10).2.1.1 (ch10_39 th10).2.1 (ch10_39 th10).2.2 hi1 dX10_take_43 ?_
  refine lv_topi (fun x43 ex43 => ?_)
  have hw := hw x43 ex43
  refine lv_istore_n (lv' := [(3, .int x43), (2, .int s0), (0, .ref (base + 816)), (1, .int a1)]) hx hb dX10_take_44 rfl hl (by decide) rfl (fun ls hl => ?_)
  refine lv_iconst (v := 0) hx hb dX10_take_45 (by decide) ?_
  refine lv_istore (lv' := [(4, .int 0), (3, .int x43), (2, .int s0), (0, .ref (base + 816)), (1, .int a1)]) hx hb dX10_take_46 hl (by decide) rfl (fun ls hl => ?_)
  obtain ⟨fu, hw⟩ := hw
  exact tb_X10_take_48 hx hb hml hown hts hK p1 _ hret  fu a1 s0 x43 0 v _ _ _ hw (lv_sub hl [3, 4, 2, 1, 0] rfl) hP hS
def w_X10_take (p1 : Int32) (v : VV) (Q : Int32 → VV → Prop) : Prop :=
  w_X10_isEnd p1 v (fun (x1 : Int32) (v1 : VV) => (¬ x1 = 0 → vp_in p1 2 ∧ ∀ x14 : Int32, x14 = v1 854 (Int32.toNatClampNeg p1) → (¬ x14 = 0 → w_X10_credit p1 v1 (fun (x23 : Int32) (v3 : VV) => (¬ x23 = 0 → b_X10_take_34 p1 Q  p1 0 v3) ∧ (x23 = 0 → b_X10_take_34 p1 Q  p1 1 v3))) ∧ (x14 = 0 → Q ((-2)) v1)) ∧ (x1 = 0 → Q ((-1)) v1))
set_option maxHeartbeats 4000000 in
set_option maxRecDepth 100000 in
/-- TransportFourModel.take -/
theorem t_X10_take (l : Launch) (dC : Nat → ClassId) (dI : Nat → Nat → Nat) (base : Nat) (cy : Nat → ClassId) (p1 : Int32) (v : VV) (Q : Int32 → VV → Prop) (hw : w_X10_take p1 v Q) : CI l yX10_take (.code yX10_take cX10_take 6 (some .int) :: TB) { frames := 4, cells := 0, slots := 0, locals := 88 } dC dI base cy [.ref (base + 816), .int p1] v Q := by
  refine Met.ofW (cc := cX10_take) (maxL := 6) (ret := (some .int)) (by decide) rfl ?_
  intro p e s m args below meth c s₁ B hml hv
  obtain ⟨rfl, hP, hK⟩ := hv
  have hx := B.exec
  have hb := B.bytes
  have hr := B.returns
  have hts0 := atoms_spec (ws := (.code yX10_take cX10_take 6 (some .int) :: TB)) B.pre
  have hts : ∀ w ∈ TB, w.before ([.ref (base + 816), .int p1]).toArray s = true := fun w h => hts0 w (List.mem_cons_of_mem _ h)
  have hown : s.vm.findClass RX10 = some m.cls := findClass_of_methodNamed B.named
  have hlocks := B.notSynchronized
  have hS : va_S (fun q => base ≤ q) s.heap s.heap [] := va_S.rf
  have hl := lv_entry ([.ref (base + 816), .int p1]) (n := 6) (Nat.le_of_ble_eq_true rfl)
  rw [lg_entry_eq]
  generalize (lg_sl ([.ref (base + 816), .int p1]) ++ List.replicate (6 - (lg_sl ([.ref (base + 816), .int p1])).length) Slot.unset).toArray = ls at hl ⊢
  have hl : lv_has ls 6 [(0, .ref (base + 816)), (1, .int p1)] := hl
  have hret : ∀ (pc : Nat) (x : Int32) (v : VV) (H : Heap) (locs : List Loc) (ls : Array Slot), decode cX10_take pc = .ok (.ireturn, 1) → Q x v → va_P (dC, dI) vwCl (Wd base cy rf v 874) H → va_S (fun q => base ≤ q) s.heap H locs → W p l e { frames := 4, cells := 0, slots := 0, locals := 88 } s m ([.ref (base + 816), .int p1]).toArray below meth c H locs 0 0 (MQ below (va_Qi Q (Hp dC dI base cy) (fun q => base ≤ q)) ([.ref (base + 816), .int p1]).toArray s 0 0 (fun q => base ≤ q)) (F0 m pc ls [.int x]) := fun pc x v H locs ls hd hq hP hS => W.iret (v := x) hx hb hr (fun t ht hW => ⟨⟨x, v, rfl, hq, by rw [ht]; exact hP, va_K.moved hW.alike hK⟩, hS.F ht⟩) hS.2.2 hd
  refine lv_iload_n hx hb dX10_take_0 rfl (lv_at hl 1 rfl) ?_
  refine kS_I (As := [.int p1]) (rest := []) ⟨hx, hb, hml, hown, hts⟩ (t_X10_isEnd l dC dI base cy p1 v _ hw) (cwS 1 hts (gS ml_X10_231 mt_X10_isEnd mn_X10 mo_X10_isEnd) rfl rfl rfl (by decide +kernel) ⟨by decide, by decide⟩) hK hP hS rfl hl.1 rfl (Nat.le_of_ble_eq_true rfl) dX10_take_1 ⟨Nat.zero_le _, Nat.zero_le _⟩ (fun x1 v1 H locs hw hP hS => ?_)
  refine lv_if_ne (tgt := 9) hx hb dX10_take_4 (by decide) (fun c4 => ?_) (fun c4 => ?_)
  · have hw := hw.1 c4
    refine lv_aload_n hx hb dX10_take_9 rfl (lv_at hl 0 rfl) ?_
    refine w_gR (C := RX10) (T := TX10) (N := 64) (ci := 10) hx hb hts in10 hown hK hP 38 th10.1 th10 rfl (by decide) (ch10_38 th10).1 (hts _ mf_X10_122) dX10_take_10 ?_
    refine lv_iload_n hx hb dX10_take_13 rfl (lv_at hl 1 rfl) ?_
    obtain ⟨hi2, hw⟩ := hw
    refine w_ia (N := 2) hx hb hK hP (ch10_38 th10).2.1.1 (ch10_38 th10).2.1 (ch10_38 th10).2.2 hi2 dX10_take_14 ?_
    refine lv_topi (fun x14 ex14 => ?_)
    have hw := hw x14 ex14
    refine lv_if_ne (tgt := 21) hx hb dX10_take_15 (by decide) (fun c15 => ?_) (fun c15 => ?_)
    · have hw := hw.1 c15
      refine lv_aload_n hx hb dX10_take_21 rfl (lv_at hl 0 rfl) ?_
      refine lv_iload_n hx hb dX10_take_22 rfl (lv_at hl 1 rfl) ?_
      refine k_I (As := [.int p1]) (rest := []) ⟨hx, hb, hml, hown, hts⟩ (t_X10_credit l dC dI base cy p1 v1 _ hw) (cwV 1 hts (gV ml_X10_214 mi_X10_credit mx_X10_credit mn_X10 mo_X10_credit) rfl rfl rfl (by decide +kernel) ⟨by decide, by decide⟩) hK hP hS th10 (by decide) rfl rfl hl.1 rfl (Nat.le_of_ble_eq_true rfl) dX10_take_23 ⟨Nat.zero_le _, Nat.zero_le _⟩ (fun x23 v3 H locs hw hP hS => ?_)
      refine lv_if_ne (tgt := 33) hx hb dX10_take_26 (by decide) (fun c26 => ?_) (fun c26 => ?_)
      · have hw := hw.1 c26
        refine lv_iconst (v := 0) hx hb dX10_take_33 (by decide) ?_
        exact tb_X10_take_34 hx hb hml hown hts hK p1 _ hret  p1 0 v3 _ _ _ hw (lv_sub hl [0, 1] rfl) hP hS
      · have hw := hw.2 c26
        refine lv_iconst (v := 1) hx hb dX10_take_29 (by decide) ?_
        refine lv_goto (tgt := 34) hx hb dX10_take_30 (by decide) ?_
        exact tb_X10_take_34 hx hb hml hown hts hK p1 _ hret  p1 1 v3 _ _ _ hw (lv_sub hl [0, 1] rfl) hP hS
    · have hw := hw.2 c15
      refine lv_bipush (v := -2) hx hb dX10_take_18 (by decide) ?_
      exact hret _ _ _ _ _ _ dX10_take_20 hw hP hS
  · have hw := hw.2 c4
    refine lv_iconst (v := -1) hx hb dX10_take_7 (by decide) ?_
    exact hret _ _ _ _ _ _ dX10_take_8 hw hP hS
def b_X10_read_36 (p1 : Int32) (p2 : Int32) (Q : Int32 → VV → Prop) (a1 : Int32) (a2 : Int32) (v : VV) : Prop :=
  Q ((-1)) v
set_option maxHeartbeats 4000000 in
set_option maxRecDepth 100000 in
theorem tb_X10_read_36 {p : Program} {l : Launch} {e : Env} {s : State} {m : MethodId} {args : Array Value} {below : List Frame} {meth : Method} {c : Code} {QQ : State → Prop} {dC : Nat → ClassId} {dI : Nat → Nat → Nat} {base : Nat} {cy : Nat → ClassId} (hx : p.tables.exec = Jvm.exec) (hb : c.code = cX10_read) (hml : c.maxLocals = 3) (hown : s.vm.findClass RX10 = some m.cls) (hts : ∀ w ∈ TB, w.before args s = true) (hK : va_K (dC, dI) vwCl (tyL cy) s) (p1 : Int32) (p2 : Int32) (Q : Int32 → VV → Prop) (hret : ∀ (pc : Nat) (x : Int32) (v : VV) (H : Heap) (locs : List Loc) (ls : Array Slot), decode cX10_read pc = .ok (.ireturn, 1) → Q x v → va_P (dC, dI) vwCl (Wd base cy rf v 874) H → va_S (fun q => base ≤ q) s.heap H locs → W p l e { frames := 1, cells := 0, slots := 0, locals := 20 } s m args below meth c H locs 0 0 QQ (F0 m pc ls [.int x])) (a1 : Int32) (a2 : Int32) (v : VV) (H : Heap) (locs : List Loc) (ls : Array Slot) (hw : b_X10_read_36 p1 p2 Q  a1 a2 v) : lv_has ls 3 [(0, .ref (base + 816)), (1, .int a1), (2, .int a2)] → va_P (dC, dI) vwCl (Wd base cy rf v 874) H → va_S (fun q => base ≤ q) s.heap H locs → W p l e { frames := 1, cells := 0, slots := 0, locals := 20 } s m args below meth c H locs 0 0 QQ (F0 m 36 ls []) := by
  intro hl hP hS
  refine lv_iconst (v := -1) hx hb dX10_read_36 (by decide) ?_
  exact hret _ _ _ _ _ _ dX10_read_37 hw hP hS
def w_X10_read (p1 : Int32) (p2 : Int32) (v : VV) (Q : Int32 → VV → Prop) : Prop :=
  w_X10_isEnd p1 v (fun (x1 : Int32) (v1 : VV) => (x1 = 0 → b_X10_read_36 p1 p2 Q  p1 p2 v1) ∧ (¬ x1 = 0 → (p2 < 0 → b_X10_read_36 p1 p2 Q  p1 p2 v1) ∧ (¬ p2 < 0 → vp_in p1 2 ∧ ∀ x17 : Int32, x17 = v1 859 (Int32.toNatClampNeg p1) → (x17 ≤ p2 → b_X10_read_36 p1 p2 Q  p1 p2 v1) ∧ (¬ x17 ≤ p2 → ∀ x29 : Int32, x29 = 4096 * p1 → ∀ x31 : Int32, x31 = x29 + p2 → vp_in x31 8192 ∧ ∀ x32 : Int32, x32 = v1 860 (Int32.toNatClampNeg x31) → Q x32 v1))))
set_option maxHeartbeats 4000000 in
set_option maxRecDepth 100000 in
/-- TransportFourModel.read -/
theorem t_X10_read (l : Launch) (dC : Nat → ClassId) (dI : Nat → Nat → Nat) (base : Nat) (cy : Nat → ClassId) (p1 : Int32) (p2 : Int32) (v : VV) (Q : Int32 → VV → Prop) (hw : w_X10_read p1 p2 v Q) : CI l yX10_read (.code yX10_read cX10_read 3 (some .int) :: TB) { frames := 1, cells := 0, slots := 0, locals := 20 } dC dI base cy [.ref (base + 816), .int p1, .int p2] v Q := by
  refine Met.ofW (cc := cX10_read) (maxL := 3) (ret := (some .int)) (by decide) rfl ?_
  intro p e s m args below meth c s₁ B hml hv
  obtain ⟨rfl, hP, hK⟩ := hv
  have hx := B.exec
  have hb := B.bytes
  have hr := B.returns
  have hts0 := atoms_spec (ws := (.code yX10_read cX10_read 3 (some .int) :: TB)) B.pre
  have hts : ∀ w ∈ TB, w.before ([.ref (base + 816), .int p1, .int p2]).toArray s = true := fun w h => hts0 w (List.mem_cons_of_mem _ h)
  have hown : s.vm.findClass RX10 = some m.cls := findClass_of_methodNamed B.named
  have hlocks := B.notSynchronized
  have hS : va_S (fun q => base ≤ q) s.heap s.heap [] := va_S.rf
  have hl := lv_entry ([.ref (base + 816), .int p1, .int p2]) (n := 3) (Nat.le_of_ble_eq_true rfl)
  rw [lg_entry_eq]
  generalize (lg_sl ([.ref (base + 816), .int p1, .int p2]) ++ List.replicate (3 - (lg_sl ([.ref (base + 816), .int p1, .int p2])).length) Slot.unset).toArray = ls at hl ⊢
  have hl : lv_has ls 3 [(0, .ref (base + 816)), (1, .int p1), (2, .int p2)] := hl
  have hret : ∀ (pc : Nat) (x : Int32) (v : VV) (H : Heap) (locs : List Loc) (ls : Array Slot), decode cX10_read pc = .ok (.ireturn, 1) → Q x v → va_P (dC, dI) vwCl (Wd base cy rf v 874) H → va_S (fun q => base ≤ q) s.heap H locs → W p l e { frames := 1, cells := 0, slots := 0, locals := 20 } s m ([.ref (base + 816), .int p1, .int p2]).toArray below meth c H locs 0 0 (MQ below (va_Qi Q (Hp dC dI base cy) (fun q => base ≤ q)) ([.ref (base + 816), .int p1, .int p2]).toArray s 0 0 (fun q => base ≤ q)) (F0 m pc ls [.int x]) := fun pc x v H locs ls hd hq hP hS => W.iret (v := x) hx hb hr (fun t ht hW => ⟨⟨x, v, rfl, hq, by rw [ht]; exact hP, va_K.moved hW.alike hK⟩, hS.F ht⟩) hS.2.2 hd
  refine lv_iload_n hx hb dX10_read_0 rfl (lv_at hl 1 rfl) ?_
  refine kS_I (As := [.int p1]) (rest := []) ⟨hx, hb, hml, hown, hts⟩ (t_X10_isEnd l dC dI base cy p1 v _ hw) (cwS 1 hts (gS ml_X10_231 mt_X10_isEnd mn_X10 mo_X10_isEnd) rfl rfl rfl (by decide +kernel) ⟨by decide, by decide⟩) hK hP hS rfl hl.1 rfl (Nat.le_of_ble_eq_true rfl) dX10_read_1 ⟨Nat.zero_le _, Nat.zero_le _⟩ (fun x1 v1 H locs hw hP hS => ?_)
  refine lv_if_eq (tgt := 36) hx hb dX10_read_4 (by decide) (fun c4 => ?_) (fun c4 => ?_)
  · have hw := hw.1 c4
    exact tb_X10_read_36 hx hb hml hown hts hK p1 p2 _ hret  p1 p2 v1 _ _ _ hw (lv_sub hl [0, 1, 2] rfl) hP hS
  · have hw := hw.2 c4
    refine lv_iload_n hx hb dX10_read_7 rfl (lv_at hl 2 rfl) ?_
    refine lv_if_lt (tgt := 36) hx hb dX10_read_8 (by decide) (fun c8 => ?_) (fun c8 => ?_)
    · have hw := hw.1 c8
      exact tb_X10_read_36 hx hb hml hown hts hK p1 p2 _ hret  p1 p2 v1 _ _ _ hw (lv_sub hl [0, 1, 2] rfl) hP hS
    · have hw := hw.2 c8
      refine lv_iload_n hx hb dX10_read_11 rfl (lv_at hl 2 rfl) ?_
      refine lv_aload_n hx hb dX10_read_12 rfl (lv_at hl 0 rfl) ?_
      refine w_gR (C := RX10) (T := TX10) (N := 64) (ci := 10) hx hb hts in10 hown hK hP 43 th10.1 th10 rfl (by decide) (ch10_43 th10).1 (hts _ mf_X10_137) dX10_read_13 ?_
      refine lv_iload_n hx hb dX10_read_16 rfl (lv_at hl 1 rfl) ?_
      obtain ⟨hi2, hw⟩ := hw
      refine w_ia (N := 2) hx hb hK hP (ch10_43 th10).2.1.1 (ch10_43 th10).2.1 (ch10_43 th10).2.2 hi2 dX10_read_17 ?_
      refine lv_topi (fun x17 ex17 => ?_)
      have hw := hw x17 ex17
      refine lv_icmp_ge (tgt := 36) hx hb dX10_read_18 (by decide) (fun c18 => ?_) (fun c18 => ?_)
      · have hw := hw.1 c18
        exact tb_X10_read_36 hx hb hml hown hts hK p1 p2 _ hret  p1 p2 v1 _ _ _ hw (lv_sub hl [0, 1, 2] rfl) hP hS
      · have hw := hw.2 c18
        refine lv_aload_n hx hb dX10_read_21 rfl (lv_at hl 0 rfl) ?_
        refine w_gR (C := RX10) (T := TX10) (N := 64) (ci := 10) hx hb hts in10 hown hK hP 44 th10.1 th10 rfl (by decide) (ch10_44 th10).1 (hts _ mf_X10_140) dX10_read_22 ?_
        refine lv_sipush (v := 4096) hx hb dX10_read_25 (by decide) ?_
        refine lv_iload_n hx hb dX10_read_28 rfl (lv_at hl 1 rfl) ?_
        refine lv_imul hx hb dX10_read_29 ?_
        refine lv_topi (fun x29 ex29 => ?_)
        have hw := hw x29 ex29
        refine lv_iload_n hx hb dX10_read_30 rfl (lv_at hl 2 rfl) ?_
        refine lv_iadd hx hb dX10_read_31 ?_
        refine lv_topi (fun x31 ex31 => ?_)
        have hw := hw x31 ex31
        obtain ⟨hi3, hw⟩ := hw
        refine w_ia (N := 8192) hx hb hK hP (ch10_44 th10).2.1.1 (ch10_44 th10).2.1 (ch10_44 th10).2.2 hi3 dX10_read_32 ?_
        refine lv_topi (fun x32 ex32 => ?_)
        have hw := hw x32 ex32
        refine lv_goto (tgt := 37) hx hb dX10_read_33 (by decide) ?_
        exact hret _ _ _ _ _ _ dX10_read_37 hw hP hS
def b_X10_urgent_48 (p1 : Int32) (Q : Int32 → VV → Prop) (fu : Nat) : Int32 → Int32 → Int32 → VV → Prop :=
  Nat.rec (motive := fun _ => Int32 → Int32 → Int32 → VV → Prop) (fun _ _ _ _ => False) (fun _ ih a1 a2 a3 v => ∀ x53 : Int32, x53 = 1024 * a1 → vp_in a1 2 ∧ ∀ x59 : Int32, x59 = v 861 (Int32.toNatClampNeg a1) → ∀ x60 : Int32, x60 = x53 + x59 → (x60 ≤ a3 → Q a2 v) ∧ (¬ x60 ≤ a3 → ∀ x75 : Int32, x75 = a3 + 1 → vp_in x75 2048 ∧ ∀ x76 : Int32, x76 = v 862 (Int32.toNatClampNeg x75) → vp_in a3 2048 ∧ ∀ v3 : VV, v3 = up2 v 862 (Int32.toNatClampNeg a3) x76 → ∀ x78 : Int32, x78 = a3 + 1 → ih a1 a2 x78 v3)) fu
set_option maxHeartbeats 4000000 in
set_option maxRecDepth 100000 in
theorem tb_X10_urgent_48 {p : Program} {l : Launch} {e : Env} {s : State} {m : MethodId} {args : Array Value} {below : List Frame} {meth : Method} {c : Code} {QQ : State → Prop} {dC : Nat → ClassId} {dI : Nat → Nat → Nat} {base : Nat} {cy : Nat → ClassId} (hx : p.tables.exec = Jvm.exec) (hb : c.code = cX10_urgent) (hml : c.maxLocals = 4) (hown : s.vm.findClass RX10 = some m.cls) (hts : ∀ w ∈ TB, w.before args s = true) (hK : va_K (dC, dI) vwCl (tyL cy) s) (p1 : Int32) (Q : Int32 → VV → Prop) (hret : ∀ (pc : Nat) (x : Int32) (v : VV) (H : Heap) (locs : List Loc) (ls : Array Slot), decode cX10_urgent pc = .ok (.ireturn, 1) → Q x v → va_P (dC, dI) vwCl (Wd base cy rf v 874) H → va_S (fun q => base ≤ q) s.heap H locs → W p l e { frames := 1, cells := 0, slots := 0, locals := 20 } s m args below meth c H locs 0 0 QQ (F0 m pc ls [.int x])) : ∀ (fu : Nat) (a1 : Int32) (a2 : Int32) (a3 : Int32) (v : VV) (H : Heap) (locs : List Loc) (ls : Array Slot), b_X10_urgent_48 p1 Q  fu a1 a2 a3 v → lv_has ls 4 [(0, .ref (base + 816)), (1, .int a1), (2, .int a2), (3, .int a3)] → va_P (dC, dI) vwCl (Wd base cy rf v 874) H → va_S (fun q => base ≤ q) s.heap H locs → W p l e { frames := 1, cells := 0, slots := 0, locals := 20 } s m args below meth c H locs 0 0 QQ (F0 m 48 ls []) := by
  intro fu
  induction fu with
  | zero =>
    intro a1 a2 a3 v H locs ls hw hl hP hS
    exact hw.elim
  | succ fu ih =>
    intro a1 a2 a3 v H locs ls hw hl hP hS
    refine lv_iload_n hx hb dX10_urgent_48 rfl (lv_at hl 3 rfl) ?_
    refine lv_sipush (v := 1024) hx hb dX10_urgent_49 (by decide) ?_
    refine lv_iload_n hx hb dX10_urgent_52 rfl (lv_at hl 1 rfl) ?_
    refine lv_imul hx hb dX10_urgent_53 ?_
    refine lv_topi (fun x53 ex53 => ?_)
    have hw := hw x53 ex53
    refine lv_aload_n hx hb dX10_urgent_54 rfl (lv_at hl 0 rfl) ?_
    refine w_gR (C := RX10) (T := TX10) (N := 64) (ci := 10) hx hb hts in10 hown hK hP 45 th10.1 th10 rfl (by decide) (ch10_45 th10).1 (hts _ mf_X10_143) dX10_urgent_55 ?_
    refine lv_iload_n hx hb dX10_urgent_58 rfl (lv_at hl 1 rfl) ?_
    obtain ⟨hi1, hw⟩ := hw
    refine w_ia (N := 2) hx hb hK hP (ch10_45 th10).2.1.1 (ch10_45 th10).2.1 (ch10_45 th10).2.2 hi1 dX10_urgent_59 ?_
    refine lv_topi (fun x59 ex59 => ?_)
    have hw := hw x59 ex59
    refine lv_iadd hx hb dX10_urgent_60 ?_
    refine lv_topi (fun x60 ex60 => ?_)
    have hw := hw x60 ex60
    refine lv_icmp_ge (tgt := 84) hx hb dX10_urgent_61 (by decide) (fun c61 => ?_) (fun c61 => ?_)
    · have hw := hw.1 c61
      refine lv_iload_n hx hb dX10_urgent_84 rfl (lv_at hl 2 rfl) ?_
      exact hret _ _ _ _ _ _ dX10_urgent_85 hw hP hS
    · have hw := hw.2 c61
      refine lv_aload_n hx hb dX10_urgent_64 rfl (lv_at hl 0 rfl) ?_
      refine w_gR (C := RX10) (T := TX10) (N := 64) (ci := 10) hx hb hts in10 hown hK hP 46 th10.1 th10 rfl (by decide) (ch10_46 th10).1 (hts _ mf_X10_146) dX10_urgent_65 ?_
      refine lv_iload_n hx hb dX10_urgent_68 rfl (lv_at hl 3 rfl) ?_
      refine lv_aload_n hx hb dX10_urgent_69 rfl (lv_at hl 0 rfl) ?_
      refine w_gR (C := RX10) (T := TX10) (N := 64) (ci := 10) hx hb hts in10 hown hK hP 46 th10.1 th10 rfl (by decide) (ch10_46 th10).1 (hts _ mf_X10_146) dX10_urgent_70 ?_
      refine lv_iload_n hx hb dX10_urgent_73 rfl (lv_at hl 3 rfl) ?_
      refine lv_iconst (v := 1) hx hb dX10_urgent_74 (by decide) ?_
      refine lv_iadd hx hb dX10_urgent_75 ?_
      refine lv_topi (fun x75 ex75 => ?_)
      have hw := hw x75 ex75
      obtain ⟨hi2, hw⟩ := hw
      refine w_ia (N := 2048) hx hb hK hP (ch10_46 th10).2.1.1 (ch10_46 th10).2.1 (ch10_46 th10).2.2 hi2 dX10_urgent_76 ?_
      refine lv_topi (fun x76 ex76 => ?_)
      have hw := hw x76 ex76
      obtain ⟨hi4, hw⟩ := hw
      refine w_is (N := 2048) hx hb hK hP hS (ch10_46 th10).2.1.1 (ch10_46 th10).2.1 (ch10_46 th10).2.2 hi4 dX10_urgent_77 (fun v3 H locs hv3 hP hz hS => ?_)
      have hw := hw v3 hv3
      obtain ⟨x78, ex78⟩ : ∃ y : Int32, y = a3 + 1 := ⟨_, rfl⟩
      have hw := hw x78 ex78
      refine lv_iinc (v := x78) (lv' := [(3, .int x78), (0, .ref (base + 816)), (1, .int a1), (2, .int a2)]) hx hb dX10_urgent_78 hl (k := 3) rfl (by rw [ex78]; first | rfl | (rw [show Int32.ofInt (-1) = (-1 : Int32) from by decide])) (by decide) rfl (fun ls hl => ?_)
      refine lv_goto (tgt := 48) hx hb dX10_urgent_81 (by decide) ?_
      exact ih a1 a2 x78 v3 _ _ _ hw (lv_sub hl [1, 2, 3, 0] rfl) hP hS
def w_X10_urgent (p1 : Int32) (v : VV) (Q : Int32 → VV → Prop) : Prop :=
  w_X10_isEnd p1 v (fun (x1 : Int32) (v1 : VV) => (¬ x1 = 0 → vp_in p1 2 ∧ ∀ x14 : Int32, x14 = v1 861 (Int32.toNatClampNeg p1) → (¬ x14 = 0 → ∀ x29 : Int32, x29 = 1024 * p1 → vp_in x29 2048 ∧ ∀ x30 : Int32, x30 = v1 862 (Int32.toNatClampNeg x29) → vp_in p1 2 ∧ ∀ x38 : Int32, x38 = v1 861 (Int32.toNatClampNeg p1) → ∀ x40 : Int32, x40 = x38 - 1 → vp_in p1 2 ∧ ∀ v5 : VV, v5 = up2 v1 861 (Int32.toNatClampNeg p1) x40 → ∀ x46 : Int32, x46 = 1024 * p1 → ∃ fu : Nat, b_X10_urgent_48 p1 Q  fu p1 x30 x46 v5) ∧ (x14 = 0 → Q ((-2)) v1)) ∧ (x1 = 0 → Q ((-1)) v1))
set_option maxHeartbeats 4000000 in
set_option maxRecDepth 100000 in
/-- TransportFourModel.urgent -/
theorem t_X10_urgent (l : Launch) (dC : Nat → ClassId) (dI : Nat → Nat → Nat) (base : Nat) (cy : Nat → ClassId) (p1 : Int32) (v : VV) (Q : Int32 → VV → Prop) (hw : w_X10_urgent p1 v Q) : CI l yX10_urgent (.code yX10_urgent cX10_urgent 4 (some .int) :: TB) { frames := 1, cells := 0, slots := 0, locals := 20 } dC dI base cy [.ref (base + 816), .int p1] v Q := by
  refine Met.ofW (cc := cX10_urgent) (maxL := 4) (ret := (some .int)) (by decide) rfl ?_
  intro p e s m args below meth c s₁ B hml hv
  obtain ⟨rfl, hP, hK⟩ := hv
  have hx := B.exec
  have hb := B.bytes
  have hr := B.returns
  have hts0 := atoms_spec (ws := (.code yX10_urgent cX10_urgent 4 (some .int) :: TB)) B.pre
  have hts : ∀ w ∈ TB, w.before ([.ref (base + 816), .int p1]).toArray s = true := fun w h => hts0 w (List.mem_cons_of_mem _ h)
  have hown : s.vm.findClass RX10 = some m.cls := findClass_of_methodNamed B.named
  have hlocks := B.notSynchronized
  have hS : va_S (fun q => base ≤ q) s.heap s.heap [] := va_S.rf
  have hl := lv_entry ([.ref (base + 816), .int p1]) (n := 4) (Nat.le_of_ble_eq_true rfl)
  rw [lg_entry_eq]
  generalize (lg_sl ([.ref (base + 816), .int p1]) ++ List.replicate (4 - (lg_sl ([.ref (base + 816), .int p1])).length) Slot.unset).toArray = ls at hl ⊢
  have hl : lv_has ls 4 [(0, .ref (base + 816)), (1, .int p1)] := hl
  have hret : ∀ (pc : Nat) (x : Int32) (v : VV) (H : Heap) (locs : List Loc) (ls : Array Slot), decode cX10_urgent pc = .ok (.ireturn, 1) → Q x v → va_P (dC, dI) vwCl (Wd base cy rf v 874) H → va_S (fun q => base ≤ q) s.heap H locs → W p l e { frames := 1, cells := 0, slots := 0, locals := 20 } s m ([.ref (base + 816), .int p1]).toArray below meth c H locs 0 0 (MQ below (va_Qi Q (Hp dC dI base cy) (fun q => base ≤ q)) ([.ref (base + 816), .int p1]).toArray s 0 0 (fun q => base ≤ q)) (F0 m pc ls [.int x]) := fun pc x v H locs ls hd hq hP hS => W.iret (v := x) hx hb hr (fun t ht hW => ⟨⟨x, v, rfl, hq, by rw [ht]; exact hP, va_K.moved hW.alike hK⟩, hS.F ht⟩) hS.2.2 hd
  refine lv_iload_n hx hb dX10_urgent_0 rfl (lv_at hl 1 rfl) ?_
  refine kS_I (As := [.int p1]) (rest := []) ⟨hx, hb, hml, hown, hts⟩ (t_X10_isEnd l dC dI base cy p1 v _ hw) (cwS 1 hts (gS ml_X10_231 mt_X10_isEnd mn_X10 mo_X10_isEnd) rfl rfl rfl (by decide +kernel) ⟨by decide, by decide⟩) hK hP hS rfl hl.1 rfl (Nat.le_of_ble_eq_true rfl) dX10_urgent_1 ⟨Nat.zero_le _, Nat.zero_le _⟩ (fun x1 v1 H locs hw hP hS => ?_)
  refine lv_if_ne (tgt := 9) hx hb dX10_urgent_4 (by decide) (fun c4 => ?_) (fun c4 => ?_)
  · have hw := hw.1 c4
    refine lv_aload_n hx hb dX10_urgent_9 rfl (lv_at hl 0 rfl) ?_
    refine w_gR (C := RX10) (T := TX10) (N := 64) (ci := 10) hx hb hts in10 hown hK hP 45 th10.1 th10 rfl (by decide) (ch10_45 th10).1 (hts _ mf_X10_143) dX10_urgent_10 ?_
    refine lv_iload_n hx hb dX10_urgent_13 rfl (lv_at hl 1 rfl) ?_
    obtain ⟨hi2, hw⟩ := hw
    refine w_ia (N := 2) hx hb hK hP (ch10_45 th10).2.1.1 (ch10_45 th10).2.1 (ch10_45 th10).2.2 hi2 dX10_urgent_14 ?_
    refine lv_topi (fun x14 ex14 => ?_)
    have hw := hw x14 ex14
    refine lv_if_ne (tgt := 21) hx hb dX10_urgent_15 (by decide) (fun c15 => ?_) (fun c15 => ?_)
    · have hw := hw.1 c15
      refine lv_aload_n hx hb dX10_urgent_21 rfl (lv_at hl 0 rfl) ?_
      refine w_gR (C := RX10) (T := TX10) (N := 64) (ci := 10) hx hb hts in10 hown hK hP 46 th10.1 th10 rfl (by decide) (ch10_46 th10).1 (hts _ mf_X10_146) dX10_urgent_22 ?_
      refine lv_sipush (v := 1024) hx hb dX10_urgent_25 (by decide) ?_
      refine lv_iload_n hx hb dX10_urgent_28 rfl (lv_at hl 1 rfl) ?_
      refine lv_imul hx hb dX10_urgent_29 ?_
      refine lv_topi (fun x29 ex29 => ?_)
      have hw := hw x29 ex29
      obtain ⟨hi3, hw⟩ := hw
      refine w_ia (N := 2048) hx hb hK hP (ch10_46 th10).2.1.1 (ch10_46 th10).2.1 (ch10_46 th10).2.2 hi3 dX10_urgent_30 ?_
      refine lv_topi (fun x30 ex30 => ?_)
      have hw := hw x30 ex30
      refine lv_istore_n (lv' := [(2, .int x30), (0, .ref (base + 816)), (1, .int p1)]) hx hb dX10_urgent_31 rfl hl (by decide) rfl (fun ls hl => ?_)
      refine lv_aload_n hx hb dX10_urgent_32 rfl (lv_at hl 1 rfl) ?_
      refine w_gR (C := RX10) (T := TX10) (N := 64) (ci := 10) hx hb hts in10 hown hK hP 45 th10.1 th10 rfl (by decide) (ch10_45 th10).1 (hts _ mf_X10_143) dX10_urgent_33 ?_
      refine lv_iload_n hx hb dX10_urgent_36 rfl (lv_at hl 2 rfl) ?_
      refine lv_dup2_11 hx hb dX10_urgent_37 rfl rfl ?_
      obtain ⟨hi4, hw⟩ := hw
      refine w_ia (N := 2) hx hb hK hP (ch10_45 th10).2.1.1 (ch10_45 th10).2.1 (ch10_45 th10).2.2 hi4 dX10_urgent_38 ?_
      refine lv_topi (fun x38 ex38 => ?_)
      have hw := hw x38 ex38
      refine lv_iconst (v := 1) hx hb dX10_urgent_39 (by decide) ?_
      refine lv_isub hx hb dX10_urgent_40 ?_
      refine lv_topi (fun x40 ex40 => ?_)
      have hw := hw x40 ex40
      obtain ⟨hi6, hw⟩ := hw
      refine w_is (N := 2) hx hb hK hP hS (ch10_45 th10).2.1.1 (ch10_45 th10).2.1 (ch10_45 th10).2.2 hi6 dX10_urgent_41 (fun v5 H locs hv5 hP hz hS => ?_)
      have hw := hw v5 hv5
      refine lv_sipush (v := 1024) hx hb dX10_urgent_42 (by decide) ?_
      refine lv_iload_n hx hb dX10_urgent_45 rfl (lv_at hl 2 rfl) ?_
      refine lv_imul hx hb dX10_urgent_46 ?_
      refine lv_topi (fun x46 ex46 => ?_)
      have hw := hw x46 ex46
      refine lv_istore_n (lv' := [(3, .int x46), (2, .int x30), (0, .ref (base + 816)), (1, .int p1)]) hx hb dX10_urgent_47 rfl hl (by decide) rfl (fun ls hl => ?_)
      obtain ⟨fu, hw⟩ := hw
      exact tb_X10_urgent_48 hx hb hml hown hts hK p1 _ hret  fu p1 x30 x46 v5 _ _ _ hw (lv_sub hl [2, 3, 1, 0] rfl) hP hS
    · have hw := hw.2 c15
      refine lv_bipush (v := -2) hx hb dX10_urgent_18 (by decide) ?_
      exact hret _ _ _ _ _ _ dX10_urgent_20 hw hP hS
  · have hw := hw.2 c4
    refine lv_iconst (v := -1) hx hb dX10_urgent_7 (by decide) ?_
    exact hret _ _ _ _ _ _ dX10_urgent_8 hw hP hS
