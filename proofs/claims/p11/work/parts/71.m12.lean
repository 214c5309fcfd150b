def w_X10_told (p1 : Int32) (p2 : Int32) (v : VV) (Q : Int32 → VV → Prop) : Prop :=
  w_X10_isEnd p1 v (fun (x1 : Int32) (v1 : VV) => (¬ x1 = 0 → (p2 = 0 → vp_in p1 2 ∧ ∀ x69 : Int32, x69 = v1 817 (Int32.toNatClampNeg p1) → Q x69 v1) ∧ (p2 = 1 → vp_in p1 2 ∧ ∀ x76 : Int32, x76 = v1 818 (Int32.toNatClampNeg p1) → Q x76 v1) ∧ (p2 = 2 → vp_in p1 2 ∧ ∀ x83 : Int32, x83 = v1 819 (Int32.toNatClampNeg p1) → Q x83 v1) ∧ (p2 = 3 → vp_in p1 2 ∧ ∀ x90 : Int32, x90 = v1 838 (Int32.toNatClampNeg p1) → Q x90 v1) ∧ (p2 = 4 → vp_in p1 2 ∧ ∀ x97 : Int32, x97 = v1 846 (Int32.toNatClampNeg p1) → Q x97 v1) ∧ (p2 = 5 → w_X10_credit p1 v1 (fun (x101 : Int32) (v7 : VV) => Q x101 v7)) ∧ (p2 = 6 → vp_in p1 2 ∧ ∀ x110 : Int32, x110 = v1 839 (Int32.toNatClampNeg p1) → vp_in p1 2 ∧ ∀ x116 : Int32, x116 = v1 840 (Int32.toNatClampNeg p1) → ∀ x117 : Int32, x117 = x110 + x116 → w_X10_mod x117 v1 (fun (x118 : Int32) (v10 : VV) => Q x118 v10)) ∧ (p2 = 7 → vp_in p1 2 ∧ ∀ x127 : Int32, x127 = v1 854 (Int32.toNatClampNeg p1) → Q x127 v1) ∧ (p2 = 8 → vp_in p1 2 ∧ ∀ x134 : Int32, x134 = v1 861 (Int32.toNatClampNeg p1) → Q x134 v1) ∧ (p2 = 9 → vp_in p1 2 ∧ ∀ x141 : Int32, x141 = v1 821 (Int32.toNatClampNeg p1) → Q x141 v1) ∧ (¬ p2 = 0 → ¬ p2 = 1 → ¬ p2 = 2 → ¬ p2 = 3 → ¬ p2 = 4 → ¬ p2 = 5 → ¬ p2 = 6 → ¬ p2 = 7 → ¬ p2 = 8 → ¬ p2 = 9 → Q ((-1)) v1)) ∧ (x1 = 0 → Q ((-1)) v1))
set_option maxHeartbeats 4000000 in
set_option maxRecDepth 100000 in
/-- TransportFourModel.told -/
theorem t_X10_told (l : Launch) (dC : Nat → ClassId) (dI : Nat → Nat → Nat) (base : Nat) (cy : Nat → ClassId) (p1 : Int32) (p2 : Int32) (v : VV) (Q : Int32 → VV → Prop) (hw : w_X10_told p1 p2 v Q) : CI l yX10_told (.code yX10_told cX10_told 3 (some .int) :: TB) { frames := 1, cells := 0, slots := 0, locals := 23 } dC dI base cy [.ref (base + 816), .int p1, .int p2] v Q := by
  refine Met.ofW (cc := cX10_told) (maxL := 3) (ret := (some .int)) (by decide) rfl ?_
  intro p e s m args below meth c s₁ B hml hv
  obtain ⟨rfl, hP, hK⟩ := hv
  have hx := B.exec
  have hb := B.bytes
  have hr := B.returns
  have hts0 := atoms_spec (ws := (.code yX10_told cX10_told 3 (some .int) :: TB)) B.pre
  have hts : ∀ w ∈ TB, w.before ([.ref (base + 816), .int p1, .int p2]).toArray s = true := fun w h => hts0 w (List.mem_cons_of_mem _ h)
  have hown : s.vm.findClass RX10 = some m.cls := findClass_of_methodNamed B.named
  have hlocks := B.notSynchronized
  have hS : va_S (fun q => base ≤ q) s.heap s.heap [] := va_S.rf
  have hl := lv_entry ([.ref (base + 816), .int p1, .int p2]) (n := 3) (Nat.le_of_ble_eq_true rfl)
  rw [lg_entry_eq]
  generalize (lg_sl ([.ref (base + 816), .int p1, .int p2]) ++ List.replicate (3 - (lg_sl ([.ref (base + 816), .int p1, .int p2])).length) Slot.unset).toArray = ls at hl ⊢
  have hl : lv_has ls 3 [(0, .ref (base + 816)), (1, .int p1), (2, .int p2)] := hl
  have hret : ∀ (pc : Nat) (x : Int32) (v : VV) (H : Heap) (locs : List Loc) (ls : Array Slot), decode cX10_told pc = .ok (.ireturn, 1) → Q x v → va_P (dC, dI) vwCl (Wd base cy rf v 874) H → va_S (fun q => base ≤ q) s.heap H locs → W p l e { frames := 1, cells := 0, slots := 0, locals := 23 } s m ([.ref (base + 816), .int p1, .int p2]).toArray below meth c H locs 0 0 (MQ below (va_Qi Q (Hp dC dI base cy) (fun q => base ≤ q)) ([.ref (base + 816), .int p1, .int p2]).toArray s 0 0 (fun q => base ≤ q)) (F0 m pc ls [.int x]) := fun pc x v H locs ls hd hq hP hS => W.iret (v := x) hx hb hr (fun t ht hW => ⟨⟨x, v, rfl, hq, by rw [ht]; exact hP, va_K.moved hW.alike hK⟩, hS.F ht⟩) hS.2.2 hd
  refine lv_iload_n hx hb dX10_told_0 rfl (lv_at hl 1 rfl) ?_
  refine kS_I (As := [.int p1]) (rest := []) ⟨hx, hb, hml, hown, hts⟩ (t_X10_isEnd l dC dI base cy p1 v _ hw) (cwS 1 hts (gS ml_X10_231 mt_X10_isEnd mn_X10 mo_X10_isEnd) rfl rfl rfl (by decide +kernel) ⟨by decide, by decide⟩) hK hP hS rfl hl.1 rfl (Nat.le_of_ble_eq_true rfl) dX10_told_1 ⟨Nat.zero_le _, Nat.zero_le _⟩ (fun x1 v1 H locs hw hP hS => ?_)
  refine lv_if_ne (tgt := 9) hx hb dX10_told_4 (by decide) (fun c4 => ?_) (fun c4 => ?_)
  · have hw := hw.1 c4
    refine lv_iload_n hx hb dX10_told_9 rfl (lv_at hl 2 rfl) ?_
    by_cases z10_0 : p2 = 0
    · refine lv_tableIn (tgt := 64) hx hb dX10_told_10 (by rw [z10_0]; decide) (by rw [z10_0]; decide) (by rw [z10_0]; rfl) (by decide) ?_
      have hw := hw.1 z10_0
      refine lv_aload_n hx hb dX10_told_64 rfl (lv_at hl 0 rfl) ?_
      refine w_gR (C := RX10) (T := TX10) (N := 64) (ci := 10) hx hb hts in10 hown hK hP 1 th10.1 th10 rfl (by decide) (ch10_1 th10).1 (hts _ mf_X10_7) dX10_told_65 ?_
      refine lv_iload_n hx hb dX10_told_68 rfl (lv_at hl 1 rfl) ?_
      obtain ⟨hi2, hw⟩ := hw
      refine w_ia (N := 2) hx hb hK hP (ch10_1 th10).2.1.1 (ch10_1 th10).2.1 (ch10_1 th10).2.2 hi2 dX10_told_69 ?_
      refine lv_topi (fun x69 ex69 => ?_)
      have hw := hw x69 ex69
      exact hret _ _ _ _ _ _ dX10_told_70 hw hP hS
    by_cases z10_1 : p2 = 1
    · refine lv_tableIn (tgt := 71) hx hb dX10_told_10 (by rw [z10_1]; decide) (by rw [z10_1]; decide) (by rw [z10_1]; rfl) (by decide) ?_
      have hw := hw.2.1 z10_1
      refine lv_aload_n hx hb dX10_told_71 rfl (lv_at hl 0 rfl) ?_
      refine w_gR (C := RX10) (T := TX10) (N := 64) (ci := 10) hx hb hts in10 hown hK hP 2 th10.1 th10 rfl (by decide) (ch10_2 th10).1 (hts _ mf_X10_13) dX10_told_72 ?_
      refine lv_iload_n hx hb dX10_told_75 rfl (lv_at hl 1 rfl) ?_
      obtain ⟨hi3, hw⟩ := hw
      refine w_ia (N := 2) hx hb hK hP (ch10_2 th10).2.1.1 (ch10_2 th10).2.1 (ch10_2 th10).2.2 hi3 dX10_told_76 ?_
      refine lv_topi (fun x76 ex76 => ?_)
      have hw := hw x76 ex76
      exact hret _ _ _ _ _ _ dX10_told_77 hw hP hS
    by_cases z10_2 : p2 = 2
    · refine lv_tableIn (tgt := 78) hx hb dX10_told_10 (by rw [z10_2]; decide) (by rw [z10_2]; decide) (by rw [z10_2]; rfl) (by decide) ?_
      have hw := hw.2.2.1 z10_2
      refine lv_aload_n hx hb dX10_told_78 rfl (lv_at hl 0 rfl) ?_
      refine w_gR (C := RX10) (T := TX10) (N := 64) (ci := 10) hx hb hts in10 hown hK hP 3 th10.1 th10 rfl (by decide) (ch10_3 th10).1 (hts _ mf_X10_16) dX10_told_79 ?_
      refine lv_iload_n hx hb dX10_told_82 rfl (lv_at hl 1 rfl) ?_
      obtain ⟨hi4, hw⟩ := hw
      refine w_ia (N := 2) hx hb hK hP (ch10_3 th10).2.1.1 (ch10_3 th10).2.1 (ch10_3 th10).2.2 hi4 dX10_told_83 ?_
      refine lv_topi (fun x83 ex83 => ?_)
      have hw := hw x83 ex83
      exact hret _ _ _ _ _ _ dX10_told_84 hw hP hS
    by_cases z10_3 : p2 = 3
    · refine lv_tableIn (tgt := 85) hx hb dX10_told_10 (by rw [z10_3]; decide) (by rw [z10_3]; decide) (by rw [z10_3]; rfl) (by decide) ?_
      have hw := hw.2.2.2.1 z10_3
      refine lv_aload_n hx hb dX10_told_85 rfl (lv_at hl 0 rfl) ?_
      refine w_gR (C := RX10) (T := TX10) (N := 64) (ci := 10) hx hb hts in10 hown hK hP 22 th10.1 th10 rfl (by decide) (ch10_22 th10).1 (hts _ mf_X10_74) dX10_told_86 ?_
      refine lv_iload_n hx hb dX10_told_89 rfl (lv_at hl 1 rfl) ?_
      obtain ⟨hi5, hw⟩ := hw
      refine w_ia (N := 2) hx hb hK hP (ch10_22 th10).2.1.1 (ch10_22 th10).2.1 (ch10_22 th10).2.2 hi5 dX10_told_90 ?_
      refine lv_topi (fun x90 ex90 => ?_)
      have hw := hw x90 ex90
      exact hret _ _ _ _ _ _ dX10_told_91 hw hP hS
    by_cases z10_4 : p2 = 4
    · refine lv_tableIn (tgt := 92) hx hb dX10_told_10 (by rw [z10_4]; decide) (by rw [z10_4]; decide) (by rw [z10_4]; rfl) (by decide) ?_
      have hw := hw.2.2.2.2.1 z10_4
      refine lv_aload_n hx hb dX10_told_92 rfl (lv_at hl 0 rfl) ?_
      refine w_gR (C := RX10) (T := TX10) (N := 64) (ci := 10) hx hb hts in10 hown hK hP 30 th10.1 th10 rfl (by decide) (ch10_30 th10).1 (hts _ mf_X10_98) dX10_told_93 ?_
      refine lv_iload_n hx hb dX10_told_96 rfl (lv_at hl 1 rfl) ?_
      obtain ⟨hi6, hw⟩ := hw
      refine w_ia (N := 2) hx hb hK hP (ch10_30 th10).2.1.1 (ch10_30 th10).2.1 (ch10_30 th10).2.2 hi6 dX10_told_97 ?_
      refine lv_topi (fun x97 ex97 => ?_)
      have hw := hw x97 ex97
      exact hret _ _ _ _ _ _ dX10_told_98 hw hP hS
    by_cases z10_5 : p2 = 5
    · refine lv_tableIn (tgt := 99) hx hb dX10_told_10 (by rw [z10_5]; decide) (by rw [z10_5]; decide) (by rw [z10_5]; rfl) (by decide) ?_
      have hw := hw.2.2.2.2.2.1 z10_5
      refine lv_aload_n hx hb dX10_told_99 rfl (lv_at hl 0 rfl) ?_
      refine lv_iload_n hx hb dX10_told_100 rfl (lv_at hl 1 rfl) ?_
      refine k_I (As := [.int p1]) (rest := []) ⟨hx, hb, hml, hown, hts⟩ (t_X10_credit l dC dI base cy p1 v1 _ hw) (cwV 1 hts (gV ml_X10_214 mi_X10_credit mx_X10_credit mn_X10 mo_X10_credit) rfl rfl rfl (by decide +kernel) ⟨by decide, by decide⟩) hK hP hS th10 (by decide) rfl rfl hl.1 rfl (Nat.le_of_ble_eq_true rfl) dX10_told_101 ⟨Nat.zero_le _, Nat.zero_le _⟩ (fun x101 v7 H locs hw hP hS => ?_)
      exact hret _ _ _ _ _ _ dX10_told_104 hw hP hS
    by_cases z10_6 : p2 = 6
    · refine lv_tableIn (tgt := 105) hx hb dX10_told_10 (by rw [z10_6]; decide) (by rw [z10_6]; decide) (by rw [z10_6]; rfl) (by decide) ?_
      have hw := hw.2.2.2.2.2.2.1 z10_6
      refine lv_aload_n hx hb dX10_told_105 rfl (lv_at hl 0 rfl) ?_
      refine w_gR (C := RX10) (T := TX10) (N := 64) (ci := 10) hx hb hts in10 hown hK hP 23 th10.1 th10 rfl (by decide) (ch10_23 th10).1 (hts _ mf_X10_77) dX10_told_106 ?_
      refine lv_iload_n hx hb dX10_told_109 rfl (lv_at hl 1 rfl) ?_
      obtain ⟨hi8, hw⟩ := hw
      refine w_ia (N := 2) hx hb hK hP (ch10_23 th10).2.1.1 (ch10_23 th10).2.1 (ch10_23 th10).2.2 hi8 dX10_told_110 ?_
      refine lv_topi (fun x110 ex110 => ?_)
      have hw := hw x110 ex110
      refine lv_aload_n hx hb dX10_told_111 rfl (lv_at hl 0 rfl) ?_
      refine w_gR (C := RX10) (T := TX10) (N := 64) (ci := 10) hx hb hts in10 hown hK hP 24 th10.1 th10 rfl (by decide) (ch10_24 th10).1 (hts _ mf_X10_80) dX10_told_112 ?_
      refine lv_iload_n hx hb dX10_told_115 rfl (lv_at hl 1 rfl) ?_
      obtain ⟨hi9, hw⟩ := hw
      refine w_ia (N := 2) hx hb hK hP (ch10_24 th10).2.1.1 (ch10_24 th10).2.1 (ch10_24 th10).2.2 hi9 dX10_told_116 ?_
      refine lv_topi (fun x116 ex116 => ?_)
      have hw := hw x116 ex116
      refine lv_iadd hx hb dX10_told_117 ?_
      refine lv_topi (fun x117 ex117 => ?_)
      have hw := hw x117 ex117
      refine kS_I (As := [.int x117]) (rest := []) ⟨hx, hb, hml, hown, hts⟩ (t_X10_mod l dC dI base cy x117 v1 _ hw) (cwS 1 hts (gS ml_X10_221 mt_X10_mod mn_X10 mo_X10_mod) rfl rfl rfl (by decide +kernel) ⟨by decide, by decide⟩) hK hP hS rfl hl.1 rfl (Nat.le_of_ble_eq_true rfl) dX10_told_118 ⟨Nat.zero_le _, Nat.zero_le _⟩ (fun x118 v10 H locs hw hP hS => ?_)
      exact hret _ _ _ _ _ _ dX10_told_121 hw hP hS
    by_cases z10_7 : p2 = 7
    · refine lv_tableIn (tgt := 122) hx hb dX10_told_10 (by rw [z10_7]; decide) (by rw [z10_7]; decide) (by rw [z10_7]; rfl) (by decide) ?_
      have hw := hw.2.2.2.2.2.2.2.1 z10_7
      refine lv_aload_n hx hb dX10_told_122 rfl (lv_at hl 0 rfl) ?_
      refine w_gR (C := RX10) (T := TX10) (N := 64) (ci := 10) hx hb hts in10 hown hK hP 38 th10.1 th10 rfl (by decide) (ch10_38 th10).1 (hts _ mf_X10_122) dX10_told_123 ?_
      refine lv_iload_n hx hb dX10_told_126 rfl (lv_at hl 1 rfl) ?_
      obtain ⟨hi11, hw⟩ := hw
      refine w_ia (N := 2) hx hb hK hP (ch10_38 th10).2.1.1 (ch10_38 th10).2.1 (ch10_38 th10).2.2 hi11 dX10_told_127 ?_
      refine lv_topi (fun x127 ex127 => ?_)
      have hw := hw x127 ex127
      exact hret _ _ _ _ _ _ dX10_told_128 hw hP hS
    by_cases z10_8 : p2 = 8
    · refine lv_tableIn (tgt := 129) hx hb dX10_told_10 (by rw [z10_8]; decide) (by rw [z10_8]; decide) (by rw [z10_8]; rfl) (by decide) ?_
      have hw := hw.2.2.2.2.2.2.2.2.1 z10_8
      refine lv_aload_n hx hb dX10_told_129 rfl (lv_at hl 0 rfl) ?_
      refine w_gR (C := RX10) (T := TX10) (N := 64) (ci := 10) hx hb hts in10 hown hK hP 45 th10.1 th10 rfl (by decide) (ch10_45 th10).1 (hts _ mf_X10_143) dX10_told_130 ?_
      refine lv_iload_n hx hb dX10_told_133 rfl (lv_at hl 1 rfl) ?_
      obtain ⟨hi12, hw⟩ := hw
      refine w_ia (N := 2) hx hb hK hP (ch10_45 th10).2.1.1 (ch10_45 th10).2.1 (ch10_45 th10).2.2 hi12 dX10_told_134 ?_
      refine lv_topi (fun x134 ex134 => ?_)
      have hw := hw x134 ex134
      exact hret _ _ _ _ _ _ dX10_told_135 hw hP hS
    by_cases z10_9 : p2 = 9
    · refine lv_tableIn (tgt := 136) hx hb dX10_told_10 (by rw [z10_9]; decide) (by rw [z10_9]; decide) (by rw [z10_9]; rfl) (by decide) ?_
      have hw := hw.2.2.2.2.2.2.2.2.2.1 z10_9
      refine lv_aload_n hx hb dX10_told_136 rfl (lv_at hl 0 rfl) ?_
      refine w_gR (C := RX10) (T := TX10) (N := 64) (ci := 10) hx hb hts in10 hown hK hP 5 th10.1 th10 rfl (by decide) (ch10_5 th10).1 (hts _ mf_X10_23) dX10_told_137 ?_
      refine lv_iload_n hx hb dX10_told_140 rfl (lv_at hl 1 rfl) ?_
      obtain ⟨hi13, hw⟩ := hw
      refine w_ia (N := 2) hx hb hK hP (ch10_5 th10).2.1.1 (ch10_5 th10).2.1 (ch10_5 th10).2.2 hi13 dX10_told_141 ?_
      refine lv_topi (fun x141 ex141 => ?_)
      have hw := hw x141 ex141
      exact hret _ _ _ _ _ _ dX10_told_142 hw hP hS
    have hw := hw.2.2.2.2.2.2.2.2.2.2 z10_0 z10_1 z10_2 z10_3 z10_4 z10_5 z10_6 z10_7 z10_8 z10_9
    refine lv_tableOut (tgt := 143) hx hb dX10_told_10 (by have := lv_neT z10_0 (a := 0) (by decide); have := lv_neT z10_1 (a := 1) (by decide); have := lv_neT z10_2 (a := 2) (by decide); have := lv_neT z10_3 (a := 3) (by decide); have := lv_neT z10_4 (a := 4) (by decide); have := lv_neT z10_5 (a := 5) (by decide); have := lv_neT z10_6 (a := 6) (by decide); have := lv_neT z10_7 (a := 7) (by decide); have := lv_neT z10_8 (a := 8) (by decide); have := lv_neT z10_9 (a := 9) (by decide); omega) (by decide) ?_
    refine lv_iconst (v := -1) hx hb dX10_told_143 (by decide) ?_
    exact hret _ _ _ _ _ _ dX10_told_144 hw hP hS
  · have hw := hw.2 c4
    refine lv_iconst (v := -1) hx hb dX10_told_7 (by decide) ?_
    exact hret _ _ _ _ _ _ dX10_told_8 hw hP hS
def w_X10_sent  (v : VV) (Q : Int32 → VV → Prop) : Prop :=
  ∀ x1 : Int32, x1 = v 816 54 → Q x1 v
set_option maxHeartbeats 4000000 in
set_option maxRecDepth 100000 in
/-- TransportFourModel.sent -/
theorem t_X10_sent (l : Launch) (dC : Nat → ClassId) (dI : Nat → Nat → Nat) (base : Nat) (cy : Nat → ClassId)  (v : VV) (Q : Int32 → VV → Prop) (hw : w_X10_sent  v Q) : CI l yX10_sent (.code yX10_sent cX10_sent 1 (some .int) :: TB) { frames := 0, cells := 0, slots := 0, locals := 0 } dC dI base cy [.ref (base + 816)] v Q := by
  refine Met.ofW (cc := cX10_sent) (maxL := 1) (ret := (some .int)) (by decide) rfl ?_
  intro p e s m args below meth c s₁ B hml hv
  obtain ⟨rfl, hP, hK⟩ := hv
  have hx := B.exec
  have hb := B.bytes
  have hr := B.returns
  have hts0 := atoms_spec (ws := (.code yX10_sent cX10_sent 1 (some .int) :: TB)) B.pre
  have hts : ∀ w ∈ TB, w.before ([.ref (base + 816)]).toArray s = true := fun w h => hts0 w (List.mem_cons_of_mem _ h)
  have hown : s.vm.findClass RX10 = some m.cls := findClass_of_methodNamed B.named
  have hlocks := B.notSynchronized
  have hS : va_S (fun q => base ≤ q) s.heap s.heap [] := va_S.rf
  have hl := lv_entry ([.ref (base + 816)]) (n := 1) (Nat.le_of_ble_eq_true rfl)
  rw [lg_entry_eq]
  generalize (lg_sl ([.ref (base + 816)]) ++ List.replicate (1 - (lg_sl ([.ref (base + 816)])).length) Slot.unset).toArray = ls at hl ⊢
  have hl : lv_has ls 1 [(0, .ref (base + 816))] := hl
  have hret : ∀ (pc : Nat) (x : Int32) (v : VV) (H : Heap) (locs : List Loc) (ls : Array Slot), decode cX10_sent pc = .ok (.ireturn, 1) → Q x v → va_P (dC, dI) vwCl (Wd base cy rf v 874) H → va_S (fun q => base ≤ q) s.heap H locs → W p l e { frames := 0, cells := 0, slots := 0, locals := 0 } s m ([.ref (base + 816)]).toArray below meth c H locs 0 0 (MQ below (va_Qi Q (Hp dC dI base cy) (fun q => base ≤ q)) ([.ref (base + 816)]).toArray s 0 0 (fun q => base ≤ q)) (F0 m pc ls [.int x]) := fun pc x v H locs ls hd hq hP hS => W.iret (v := x) hx hb hr (fun t ht hW => ⟨⟨x, v, rfl, hq, by rw [ht]; exact hP, va_K.moved hW.alike hK⟩, hS.F ht⟩) hS.2.2 hd
  refine lv_aload_n hx hb dX10_sent_0 rfl (lv_at hl 0 rfl) ?_
  refine w_gI (C := RX10) (T := TX10) (N := 64) (ci := 10) hx hb hts in10 hown hK hP 54 th10.1 th10 rfl (by decide) (hts _ mf_X10_195) dX10_sent_1 ?_
  refine lv_topi (fun x1 ex1 => ?_)
  have hw := hw x1 ex1
  exact hret _ _ _ _ _ _ dX10_sent_4 hw hP hS
def b_X10_byteOf_69 (p1 : Int32) (p2 : Int32) (Q : Int32 → VV → Prop) (a1 : Int32) (a2 : Int32) (a3 : Int32) (v : VV) : Prop :=
  Q ((-1)) v
set_option maxHeartbeats 4000000 in
set_option maxRecDepth 100000 in
theorem tb_X10_byteOf_69 {p : Program} {l : Launch} {e : Env} {s : State} {m : MethodId} {args : Array Value} {below : List Frame} {meth : Method} {c : Code} {QQ : State → Prop} {dC : Nat → ClassId} {dI : Nat → Nat → Nat} {base : Nat} {cy : Nat → ClassId} (hx : p.tables.exec = Jvm.exec) (hb : c.code = cX10_byteOf) (hml : c.maxLocals = 4) (hown : s.vm.findClass RX10 = some m.cls) (hts : ∀ w ∈ TB, w.before args s = true) (hK : va_K (dC, dI) vwCl (tyL cy) s) (p1 : Int32) (p2 : Int32) (Q : Int32 → VV → Prop) (hret : ∀ (pc : Nat) (x : Int32) (v : VV) (H : Heap) (locs : List Loc) (ls : Array Slot), decode cX10_byteOf pc = .ok (.ireturn, 1) → Q x v → va_P (dC, dI) vwCl (Wd base cy rf v 874) H → va_S (fun q => base ≤ q) s.heap H locs → W p l e { frames := 0, cells := 0, slots := 0, locals := 0 } s m args below meth c H locs 0 0 QQ (F0 m pc ls [.int x])) (a1 : Int32) (a2 : Int32) (a3 : Int32) (v : VV) (H : Heap) (locs : List Loc) (ls : Array Slot) (hw : b_X10_byteOf_69 p1 p2 Q  a1 a2 a3 v) : lv_has ls 4 [(0, .ref (base + 816)), (1, .int a1), (2, .int a2), (3, .int a3)] → va_P (dC, dI) vwCl (Wd base cy rf v 874) H → va_S (fun q => base ≤ q) s.heap H locs → W p l e { frames := 0, cells := 0, slots := 0, locals := 0 } s m args below meth c H locs 0 0 QQ (F0 m 69 ls []) := by
  intro hl hP hS
  refine lv_iconst (v := -1) hx hb dX10_byteOf_69 (by decide) ?_
  exact hret _ _ _ _ _ _ dX10_byteOf_70 hw hP hS
def b_X10_byteOf_28 (p1 : Int32) (p2 : Int32) (Q : Int32 → VV → Prop) (a1 : Int32) (a2 : Int32) (s0 : Int32) (v : VV) : Prop :=
  (s0 = 0 → b_X10_byteOf_69 p1 p2 Q  a1 a2 s0 v) ∧ (¬ s0 = 0 → (a2 < 0 → b_X10_byteOf_69 p1 p2 Q  a1 a2 s0 v) ∧ (¬ a2 < 0 → ∀ x46 : Int32, x46 = a1 - a1 / 4096 * 4096 → vp_in x46 4096 ∧ ∀ x47 : Int32, x47 = v 869 (Int32.toNatClampNeg x46) → (x47 ≤ a2 → b_X10_byteOf_69 p1 p2 Q  a1 a2 s0 v) ∧ (¬ x47 ≤ a2 → ∀ x61 : Int32, x61 = a1 - a1 / 4096 * 4096 → ∀ x62 : Int32, x62 = 20 * x61 → ∀ x64 : Int32, x64 = x62 + a2 → vp_in x64 81920 ∧ ∀ x65 : Int32, x65 = v 868 (Int32.toNatClampNeg x64) → Q x65 v)))
set_option maxHeartbeats 4000000 in
set_option maxRecDepth 100000 in
theorem tb_X10_byteOf_28 {p : Program} {l : Launch} {e : Env} {s : State} {m : MethodId} {args : Array Value} {below : List Frame} {meth : Method} {c : Code} {QQ : State → Prop} {dC : Nat → ClassId} {dI : Nat → Nat → Nat} {base : Nat} {cy : Nat → ClassId} (hx : p.tables.exec = Jvm.exec) (hb : c.code = cX10_byteOf) (hml : c.maxLocals = 4) (hown : s.vm.findClass RX10 = some m.cls) (hts : ∀ w ∈ TB, w.before args s = true) (hK : va_K (dC, dI) vwCl (tyL cy) s) (p1 : Int32) (p2 : Int32) (Q : Int32 → VV → Prop) (hret : ∀ (pc : Nat) (x : Int32) (v : VV) (H : Heap) (locs : List Loc) (ls : Array Slot), decode cX10_byteOf pc = .ok (.ireturn, 1) → Q x v → va_P (dC, dI) vwCl (Wd base cy rf v 874) H → va_S (fun q => base ≤ q) s.heap H locs → W p l e { frames := 0, cells := 0, slots := 0, locals := 0 } s m args below meth c H locs 0 0 QQ (F0 m pc ls [.int x])) (a1 : Int32) (a2 : Int32) (s0 : Int32) (v : VV) (H : Heap) (locs : List Loc) (ls : Array Slot) (hw : b_X10_byteOf_28 p1 p2 Q  a1 a2 s0 v) : lv_has ls 4 [(0, .ref (base + 816)), (1, .int a1), (2, .int a2)] → va_P (dC, dI) vwCl (Wd base cy rf v 874) H → va_S (fun q => base ≤ q) s.heap H locs → W p l e { frames := 0, cells := 0, slots := 0, locals := 0 } s m args below meth c H locs 0 0 QQ (F0 m 28 ls [.int s0]) := by
  intro hl hP hS
  refine lv_istore_n (lv' := [(3, .int s0), (0, .ref (base + 816)), (1, .int a1), (2, .int a2)]) hx hb dX10_byteOf_28 rfl hl (by decide) rfl (fun ls hl => ?_)
  refine lv_iload_n hx hb dX10_byteOf_29 rfl (lv_at hl 0 rfl) ?_
  refine lv_if_eq (tgt := 69) hx hb dX10_byteOf_30 (by decide) (fun c30 => ?_) (fun c30 => ?_)
  · have hw := hw.1 c30
    exact tb_X10_byteOf_69 hx hb hml hown hts hK p1 p2 _ hret  a1 a2 s0 v _ _ _ hw (lv_sub hl [1, 2, 3, 0] rfl) hP hS
  · have hw := hw.2 c30
    refine lv_iload_n hx hb dX10_byteOf_33 rfl (lv_at hl 3 rfl) ?_
    refine lv_if_lt (tgt := 69) hx hb dX10_byteOf_34 (by decide) (fun c34 => ?_) (fun c34 => ?_)
    · have hw := hw.1 c34
      exact tb_X10_byteOf_69 hx hb hml hown hts hK p1 p2 _ hret  a1 a2 s0 v _ _ _ hw (lv_sub hl [1, 2, 3, 0] rfl) hP hS
    · have hw := hw.2 c34
      refine lv_iload_n hx hb dX10_byteOf_37 rfl (lv_at hl 3 rfl) ?_
      refine lv_aload_n hx hb dX10_byteOf_38 rfl (lv_at hl 1 rfl) ?_
      refine w_gR (C := RX10) (T := TX10) (N := 64) (ci := 10) hx hb hts in10 hown hK hP 57 th10.1 th10 rfl (by decide) (ch10_57 th10).1 (hts _ mf_X10_168) dX10_byteOf_39 ?_
      refine lv_iload_n hx hb dX10_byteOf_42 rfl (lv_at hl 2 rfl) ?_
      refine lv_sipush (v := 4096) hx hb dX10_byteOf_43 (by decide) ?_
      refine lv_irem hx hb dX10_byteOf_46 (by decide) ?_
      refine lv_topi (fun x46 ex46 => ?_)
      have hw := hw x46 ex46
      obtain ⟨hi1, hw⟩ := hw
      refine w_ia (N := 4096) hx hb hK hP (ch10_57 th10).2.1.1 (ch10_57 th10).2.1 (ch10_57 th10).2.2 hi1 dX10_byteOf_47 ?_
      refine lv_topi (fun x47 ex47 => ?_)
      have hw := hw x47 ex47
      refine lv_icmp_ge (tgt := 69) hx hb dX10_byteOf_48 (by decide) (fun c48 => ?_) (fun c48 => ?_)
      · have hw := hw.1 c48
        exact tb_X10_byteOf_69 hx hb hml hown hts hK p1 p2 _ hret  a1 a2 s0 v _ _ _ hw (lv_sub hl [1, 2, 3, 0] rfl) hP hS
      · have hw := hw.2 c48
        refine lv_aload_n hx hb dX10_byteOf_51 rfl (lv_at hl 1 rfl) ?_
        refine w_gR (C := RX10) (T := TX10) (N := 64) (ci := 10) hx hb hts in10 hown hK hP 56 th10.1 th10 rfl (by decide) (ch10_56 th10).1 (hts _ mf_X10_165) dX10_byteOf_52 ?_
        refine lv_bipush (v := 20) hx hb dX10_byteOf_55 (by decide) ?_
        refine lv_iload_n hx hb dX10_byteOf_57 rfl (lv_at hl 2 rfl) ?_
        refine lv_sipush (v := 4096) hx hb dX10_byteOf_58 (by decide) ?_
        refine lv_irem hx hb dX10_byteOf_61 (by decide) ?_
        refine lv_topi (fun x61 ex61 => ?_)
        have hw := hw x61 ex61
        refine lv_imul hx hb dX10_byteOf_62 ?_
        refine lv_topi (fun x62 ex62 => ?_)
        have hw := hw x62 ex62
        refine lv_iload_n hx hb dX10_byteOf_63 rfl (lv_at hl 3 rfl) ?_
        refine lv_iadd hx hb dX10_byteOf_64 ?_
        refine lv_topi (fun x64 ex64 => ?_)
        have hw := hw x64 ex64
        obtain ⟨hi2, hw⟩ := hw
        refine w_ia (N := 81920) hx hb hK hP (ch10_56 th10).2.1.1 (ch10_56 th10).2.1 (ch10_56 th10).2.2 hi2 dX10_byteOf_65 ?_
        refine lv_topi (fun x65 ex65 => ?_)
        have hw := hw x65 ex65
        refine lv_goto (tgt := 70) hx hb dX10_byteOf_66 (by decide) ?_
        exact hret _ _ _ _ _ _ dX10_byteOf_70 hw hP hS
def b_X10_byteOf_27 (p1 : Int32) (p2 : Int32) (Q : Int32 → VV → Prop) (a1 : Int32) (a2 : Int32) (v : VV) : Prop :=
  b_X10_byteOf_28 p1 p2 Q  a1 a2 0 v
set_option maxHeartbeats 4000000 in
set_option maxRecDepth 100000 in
theorem tb_X10_byteOf_27 {p : Program} {l : Launch} {e : Env} {s : State} {m : MethodId} {args : Array Value} {below : List Frame} {meth : Method} {c : Code} {QQ : State → Prop} {dC : Nat → ClassId} {dI : Nat → Nat → Nat} {base : Nat} {cy : Nat → ClassId} (hx : p.tables.exec = Jvm.exec) (hb : c.code = cX10_byteOf) (hml : c.maxLocals = 4) (hown : s.vm.findClass RX10 = some m.cls) (hts : ∀ w ∈ TB, w.before args s = true) (hK : va_K (dC, dI) vwCl (tyL cy) s) (p1 : Int32) (p2 : Int32) (Q : Int32 → VV → Prop) (hret : ∀ (pc : Nat) (x : Int32) (v : VV) (H : Heap) (locs : List Loc) (ls : Array Slot), decode cX10_byteOf pc = .ok (.ireturn, 1) → Q x v → va_P (dC, dI) vwCl (Wd base cy rf v 874) H → va_S (fun q => base ≤ q) s.heap H locs → W p l e { frames := 0, cells := 0, slots := 0, locals := 0 } s m args below meth c H locs 0 0 QQ (F0 m pc ls [.int x])) (a1 : Int32) (a2 : Int32) (v : VV) (H : Heap) (locs : List Loc) (ls : Array Slot) (hw : b_X10_byteOf_27 p1 p2 Q  a1 a2 v) : lv_has ls 4 [(0, .ref (base + 816)), (1, .int a1), (2, .int a2)] → va_P (dC, dI) vwCl (Wd base cy rf v 874) H → va_S (fun q => base ≤ q) s.heap H locs → W p l e { frames := 0, cells := 0, slots := 0, locals := 0 } s m args below meth c H locs 0 0 QQ (F0 m 27 ls []) := by
  intro hl hP hS
  refine lv_iconst (v := 0) hx hb dX10_byteOf_27 (by decide) ?_
  exact tb_X10_byteOf_28 hx hb hml hown hts hK p1 p2 _ hret  a1 a2 0 v _ _ _ hw (lv_sub hl [0, 1, 2] rfl) hP hS
def w_X10_byteOf (p1 : Int32) (p2 : Int32) (v : VV) (Q : Int32 → VV → Prop) : Prop :=
  (p1 < 0 → b_X10_byteOf_27 p1 p2 Q  p1 p2 v) ∧ (¬ p1 < 0 → ∀ x6 : Int32, x6 = v 816 54 → (x6 ≤ p1 → b_X10_byteOf_27 p1 p2 Q  p1 p2 v) ∧ (¬ x6 ≤ p1 → ∀ x14 : Int32, x14 = v 816 54 → ∀ x19 : Int32, x19 = x14 - 64 → (p1 < x19 → b_X10_byteOf_27 p1 p2 Q  p1 p2 v) ∧ (¬ p1 < x19 → b_X10_byteOf_28 p1 p2 Q  p1 p2 1 v)))
set_option maxHeartbeats 4000000 in
set_option maxRecDepth 100000 in
/-- TransportFourModel.byteOf -/
theorem t_X10_byteOf (l : Launch) (dC : Nat → ClassId) (dI : Nat → Nat → Nat) (base : Nat) (cy : Nat → ClassId) (p1 : Int32) (p2 : Int32) (v : VV) (Q : Int32 → VV → Prop) (hw : w_X10_byteOf p1 p2 v Q) : CI l yX10_byteOf (.code yX10_byteOf cX10_byteOf 4 (some .int) :: TB) { frames := 0, cells := 0, slots := 0, locals := 0 } dC dI base cy [.ref (base + 816), .int p1, .int p2] v Q := by
  refine Met.ofW (cc := cX10_byteOf) (maxL := 4) (ret := (some .int)) (by decide) rfl ?_
  intro p e s m args below meth c s₁ B hml hv
  obtain ⟨rfl, hP, hK⟩ := hv
  have hx := B.exec
  have hb := B.bytes
  have hr := B.returns
  have hts0 := atoms_spec (ws := (.code yX10_byteOf cX10_byteOf 4 (some .int) :: TB)) B.pre
  have hts : ∀ w ∈ TB, w.before ([.ref (base + 816), .int p1, .int p2]).toArray s = true := fun w h => hts0 w (List.mem_cons_of_mem _ h)
  have hown : s.vm.findClass RX10 = some m.cls := findClass_of_methodNamed B.named
  have hlocks := B.notSynchronized
  have hS : va_S (fun q => base ≤ q) s.heap s.heap [] := va_S.rf
  have hl := lv_entry ([.ref (base + 816), .int p1, .int p2]) (n := 4) (Nat.le_of_ble_eq_true rfl)
  rw [lg_entry_eq]
  generalize (lg_sl ([.ref (base + 816), .int p1, .int p2]) ++ List.replicate (4 - (lg_sl ([.ref (base + 816), .int p1, .int p2])).length) Slot.unset).toArray = ls at hl ⊢
  have hl : lv_has ls 4 [(0, .ref (base + 816)), (1, .int p1), (2, .int p2)] := hl
  have hret : ∀ (pc : Nat) (x : Int32) (v : VV) (H : Heap) (locs : List Loc) (ls : Array Slot), decode cX10_byteOf pc = .ok (.ireturn, 1) → Q x v → va_P (dC, dI) vwCl (Wd base cy rf v 874) H → va_S (fun q => base ≤ q) s.heap H locs → W p l e { frames := 0, cells := 0, slots := 0, locals := 0 } s m ([.ref (base + 816), .int p1, .int p2]).toArray below meth c H locs 0 0 (MQ below (va_Qi Q (Hp dC dI base cy) (fun q => base ≤ q)) ([.ref (base + 816), .int p1, .int p2]).toArray s 0 0 (fun q => base ≤ q)) (F0 m pc ls [.int x]) := fun pc x v H locs ls hd hq hP hS => W.iret (v := x) hx hb hr (fun t ht hW => ⟨⟨x, v, rfl, hq, by rw [ht]; exact hP, va_K.moved hW.alike hK⟩, hS.F ht⟩) hS.2.2 hd
  refine lv_iload_n hx hb dX10_byteOf_0 rfl (lv_at hl 1 rfl) ?_
  refine lv_if_lt (tgt := 27) hx hb dX10_byteOf_1 (by decide) (fun c1 => ?_) (fun c1 => ?_)
  · have hw := hw.1 c1
    exact tb_X10_byteOf_27 hx hb hml hown hts hK p1 p2 _ hret  p1 p2 v _ _ _ hw (lv_sub hl [0, 1, 2] rfl) hP hS
  · have hw := hw.2 c1
    refine lv_iload_n hx hb dX10_byteOf_4 rfl (lv_at hl 1 rfl) ?_
    refine lv_aload_n hx hb dX10_byteOf_5 rfl (lv_at hl 0 rfl) ?_
    refine w_gI (C := RX10) (T := TX10) (N := 64) (ci := 10) hx hb hts in10 hown hK hP 54 th10.1 th10 rfl (by decide) (hts _ mf_X10_195) dX10_byteOf_6 ?_
    refine lv_topi (fun x6 ex6 => ?_)
    have hw := hw x6 ex6
    refine lv_icmp_ge (tgt := 27) hx hb dX10_byteOf_9 (by decide) (fun c9 => ?_) (fun c9 => ?_)
    · have hw := hw.1 c9
      exact tb_X10_byteOf_27 hx hb hml hown hts hK p1 p2 _ hret  p1 p2 v _ _ _ hw (lv_sub hl [0, 1, 2] rfl) hP hS
    · have hw := hw.2 c9
      refine lv_iload_n hx hb dX10_byteOf_12 rfl (lv_at hl 1 rfl) ?_
      refine lv_aload_n hx hb dX10_byteOf_13 rfl (lv_at hl 0 rfl) ?_
      refine w_gI (C := RX10) (T := TX10) (N := 64) (ci := 10) hx hb hts in10 hown hK hP 54 th10.1 th10 rfl (by decide) (hts _ mf_X10_195) dX10_byteOf_14 ?_
      refine lv_topi (fun x14 ex14 => ?_)
      have hw := hw x14 ex14
      refine lv_bipush (v := 64) hx hb dX10_byteOf_17 (by decide) ?_
      refine lv_isub hx hb dX10_byteOf_19 ?_
      refine lv_topi (fun x19 ex19 => ?_)
      have hw := hw x19 ex19
      refine lv_icmp_lt (tgt := 27) hx hb dX10_byteOf_20 (by decide) (fun c20 => ?_) (fun c20 => ?_)
      · have hw := hw.1 c20
        exact tb_X10_byteOf_27 hx hb hml hown hts hK p1 p2 _ hret  p1 p2 v _ _ _ hw (lv_sub hl [0, 1, 2] rfl) hP hS
      · have hw := hw.2 c20
        refine lv_iconst (v := 1) hx hb dX10_byteOf_23 (by decide) ?_
        refine lv_goto (tgt := 28) hx hb dX10_byteOf_24 (by decide) ?_
        exact tb_X10_byteOf_28 hx hb hml hown hts hK p1 p2 _ hret  p1 p2 1 v _ _ _ hw (lv_sub hl [0, 1, 2] rfl) hP hS
def w_X10_clock  (v : VV) (Q : Int32 → VV → Prop) : Prop :=
  ∀ x1 : Int32, x1 = v 816 0 → Q x1 v
set_option maxHeartbeats 4000000 in
set_option maxRecDepth 100000 in
/-- TransportFourModel.clock -/
theorem t_X10_clock (l : Launch) (dC : Nat → ClassId) (dI : Nat → Nat → Nat) (base : Nat) (cy : Nat → ClassId)  (v : VV) (Q : Int32 → VV → Prop) (hw : w_X10_clock  v Q) : CI l yX10_clock (.code yX10_clock cX10_clock 1 (some .int) :: TB) { frames := 0, cells := 0, slots := 0, locals := 0 } dC dI base cy [.ref (base + 816)] v Q := by
  refine Met.ofW (cc := cX10_clock) (maxL := 1) (ret := (some .int)) (by decide) rfl ?_
  intro p e s m args below meth c s₁ B hml hv
  obtain ⟨rfl, hP, hK⟩ := hv
  have hx := B.exec
  have hb := B.bytes
  have hr := B.returns
  have hts0 := atoms_spec (ws := (.code yX10_clock cX10_clock 1 (some .int) :: TB)) B.pre
  have hts : ∀ w ∈ TB, w.before ([.ref (base + 816)]).toArray s = true := fun w h => hts0 w (List.mem_cons_of_mem _ h)
  have hown : s.vm.findClass RX10 = some m.cls := findClass_of_methodNamed B.named
  have hlocks := B.notSynchronized
  have hS : va_S (fun q => base ≤ q) s.heap s.heap [] := va_S.rf
  have hl := lv_entry ([.ref (base + 816)]) (n := 1) (Nat.le_of_ble_eq_true rfl)
  rw [lg_entry_eq]
  generalize (lg_sl ([.ref (base + 816)]) ++ List.replicate (1 - (lg_sl ([.ref (base + 816)])).length) Slot.unset).toArray = ls at hl ⊢
  have hl : lv_has ls 1 [(0, .ref (base + 816))] := hl
  have hret : ∀ (pc : Nat) (x : Int32) (v : VV) (H : Heap) (locs : List Loc) (ls : Array Slot), decode cX10_clock pc = .ok (.ireturn, 1) → Q x v → va_P (dC, dI) vwCl (Wd base cy rf v 874) H → va_S (fun q => base ≤ q) s.heap H locs → W p l e { frames := 0, cells := 0, slots := 0, locals := 0 } s m ([.ref (base + 816)]).toArray below meth c H locs 0 0 (MQ below (va_Qi Q (Hp dC dI base cy) (fun q => base ≤ q)) ([.ref (base + 816)]).toArray s 0 0 (fun q => base ≤ q)) (F0 m pc ls [.int x]) := fun pc x v H locs ls hd hq hP hS => W.iret (v := x) hx hb hr (fun t ht hW => ⟨⟨x, v, rfl, hq, by rw [ht]; exact hP, va_K.moved hW.alike hK⟩, hS.F ht⟩) hS.2.2 hd
  refine lv_aload_n hx hb dX10_clock_0 rfl (lv_at hl 0 rfl) ?_
  refine w_gI (C := RX10) (T := TX10) (N := 64) (ci := 10) hx hb hts in10 hown hK hP 0 th10.1 th10 rfl (by decide) (hts _ mf_X10_198) dX10_clock_1 ?_
  refine lv_topi (fun x1 ex1 => ?_)
  have hw := hw x1 ex1
  exact hret _ _ _ _ _ _ dX10_clock_4 hw hP hS
