theorem wa5 : Cond.arrayOver (.object RX5) ∈ lw_tbl := mT1 (List.mem_of_getElem? (i := 29) (by decide +kernel))
theorem wn_X2_17 : Cond.methodLinkNest RX2 17 yX5_init hst ∈ lw_tbl := mT1 (List.mem_of_getElem? (i := 31) (by decide +kernel))
theorem wa0 : Cond.arrayOver (.object RX0) ∈ lw_tbl := mT1 (List.mem_of_getElem? (i := 104) (by decide +kernel))
theorem wa4 : Cond.arrayOver (.object RX4) ∈ lw_tbl := mT1 (List.mem_of_getElem? (i := 117) (by decide +kernel))
theorem wn_X3_17 : Cond.methodLinkNest RX3 17 yX4_init hst ∈ lw_tbl := mT1 (List.mem_of_getElem? (i := 119) (by decide +kernel))
theorem wn_X4_17 : Cond.methodLinkNest RX4 17 yX8_init hst ∈ lw_tbl := mT1 (List.mem_of_getElem? (i := 125) (by decide +kernel))
theorem wn_X0_20 : Cond.methodLinkNest RX0 20 yX1_init hst ∈ lw_tbl := mT1 (List.mem_of_getElem? (i := 180) (by decide +kernel))
theorem waA : Cond.arrayOver (.array .int) ∈ lw_tbl := mT1 (List.mem_of_getElem? (i := 185) (by decide +kernel))
theorem wn_X0_27 : Cond.methodLinkNest RX0 27 yX7_init hst ∈ lw_tbl := mT1 (List.mem_of_getElem? (i := 237) (by decide +kernel))
theorem wn_X7_17 : Cond.methodLinkNest RX7 17 yX8_init hst ∈ lw_tbl := mT2 (List.mem_of_getElem? (i := 2) (by decide +kernel))
theorem wn_X0_34 : Cond.methodLinkNest RX0 34 yX6_init hst ∈ lw_tbl := mT2 (List.mem_of_getElem? (i := 21) (by decide +kernel))
theorem wn_X0_41 : Cond.methodLinkNest RX0 41 yX8_init hst ∈ lw_tbl := mT2 (List.mem_of_getElem? (i := 41) (by decide +kernel))
set_option maxHeartbeats 8000000 in
set_option maxRecDepth 100000 in
/-- THE LAW, from its entry: the two objects are made, and turn by turn they are held against each other -/
theorem whole_start {p : Program} {e : Env} {s : State} {m : MethodId} {below : List Frame} {meth : Method} {c : Code} (l : Launch) {b L : Nat} {xs : Nat → Int32} (hL : L ≤ 2560) (C0 : lw_At p s m meth c b L xs) : W p l e room_1 s m #[Value.ref b] below meth c s.heap [] 0 0 (lw_Z below #[Value.ref b] s) (entryFrame m ([Value.ref b] : List Value).toArray 4) := by
  obtain ⟨hx, hb, hr, hml, hown, htsL, hXs, hbl, hlocks, hgv⟩ := id C0
  have hts : ∀ w ∈ TB, w.before #[Value.ref b] s = true := fun w h => htsL w (TB_in h)
  obtain ⟨c0, iS0, hKn0⟩ := u_known (C := RX0) (T := TX0) (N := 15) (n := 15) hts in0 (hts _ ms_X0)
  obtain ⟨c1, iS1, hKn1⟩ := u_known (C := RX1) (T := TX1) (N := 15) (n := 15) hts in1 (hts _ ms_X1)
  obtain ⟨c2, iS2, hKn2⟩ := u_known (C := RX2) (T := TX2) (N := 11) (n := 11) hts in2 (hts _ ms_X2)
  obtain ⟨c3, iS3, hKn3⟩ := u_known (C := RX3) (T := TX3) (N := 6) (n := 6) hts in3 (hts _ ms_X3)
  obtain ⟨c4, iS4, hKn4⟩ := u_known (C := RX4) (T := TX4) (N := 4) (n := 4) hts in4 (hts _ ms_X4)
  obtain ⟨c5, iS5, hKn5⟩ := u_known (C := RX5) (T := TX5) (N := 7) (n := 7) hts in5 (hts _ ms_X5)
  obtain ⟨c6, iS6, hKn6⟩ := u_known (C := RX6) (T := TX6) (N := 4) (n := 4) hts in6 (hts _ ms_X6)
  obtain ⟨c7, iS7, hKn7⟩ := u_known (C := RX7) (T := TX7) (N := 4) (n := 4) hts in7 (hts _ ms_X7)
  obtain ⟨c8, iS8, hKn8⟩ := u_known (C := RX8) (T := TX8) (N := 2) (n := 2) hts in8 (hts _ ms_X8)
  obtain ⟨c9, iS9, hKn9⟩ := u_known (C := RX9) (T := TX9) (N := 4) (n := 4) hts in9 (hts _ ms_X9)
  obtain ⟨c10, iS10, hKn10⟩ := u_known (C := RX10) (T := TX10) (N := 64) (n := 64) hts in10 (hts _ ms_X10)
  obtain ⟨dC, dI, hKc⟩ : ∃ (dC : Nat → ClassId) (dI : Nat → Nat → Nat), ∀ (k : Nat) (q : vw_C), vwCl[k]? = some q → u_Kn s q.1 q.2.1 q.2.2 (dC k) (dI k) := by
    refine ⟨fun k => [c0, c1, c2, c3, c4, c5, c6, c7, c8, c9, c10].getD k c0, fun k => [iS0, iS1, iS2, iS3, iS4, iS5, iS6, iS7, iS8, iS9, iS10].getD k iS0, ?_⟩
    intro k q hq
    match k, hq with
    | 0, hq => cases hq; exact hKn0
    | 1, hq => cases hq; exact hKn1
    | 2, hq => cases hq; exact hKn2
    | 3, hq => cases hq; exact hKn3
    | 4, hq => cases hq; exact hKn4
    | 5, hq => cases hq; exact hKn5
    | 6, hq => cases hq; exact hKn6
    | 7, hq => cases hq; exact hKn7
    | 8, hq => cases hq; exact hKn8
    | 9, hq => cases hq; exact hKn9
    | 10, hq => cases hq; exact hKn10
    | k + 11, hq => simp [vwCl] at hq
  obtain ⟨cI, kI, eI, fI1, fI2, fI3⟩ := Cond.arrayClass_spec (hts _ ma_int)
  obtain ⟨cZ, kZ, eZ, fZ1, fZ2, fZ3⟩ := Cond.arrayClass_spec (hts _ ma_boolean)
  obtain ⟨e5, a5, k5, f51, -, f53, f54, f55⟩ := Cond.arrayOver_spec (htsL _ wa5)
  obtain ⟨e0, a0, k0, f01, -, f03, f04, f05⟩ := Cond.arrayOver_spec (htsL _ wa0)
  obtain ⟨e4, a4, k4, f41, -, f43, f44, f45⟩ := Cond.arrayOver_spec (htsL _ wa4)
  obtain ⟨eA, aA, kA, fA1, -, fA3, fA4, fA5⟩ := arrayOverA_spec (htsL _ waA)
  obtain ⟨cy, y11, y12, y13, y14, y15, y16⟩ : ∃ cy : Nat → ClassId, cy 11 = cI ∧ cy 12 = cZ ∧ cy 13 = a5 ∧ cy 14 = a0 ∧ cy 15 = a4 ∧ cy 16 = aA := ⟨fun k => [cI, cZ, a5, a0, a4, aA].getD (k - 11) cI, rfl, rfl, rfl, rfl, rfl, rfl⟩
  have hK : va_K (dC, dI) vwCl (tyL cy) s := by
    refine ⟨hKc, fun k q hq => ?_⟩
    match k, hq with
    | 0, hq => cases hq; rw [y11]; exact ⟨fun n z => ⟨fun k h => (by cases h), kI, fI2, eI, fI3⟩, fI1⟩
    | 1, hq => cases hq; rw [y12]; exact ⟨fun n z => ⟨fun k h => (by cases h), kZ, fZ2, eZ, fZ3⟩, fZ1⟩
    | 2, hq => cases hq; rw [y13]; exact ⟨fun n z => ⟨fun k h => (by cases h), k5, f53, e5, f54⟩, k5, e5, f53, f54, f51, f55⟩
    | 3, hq => cases hq; rw [y14]; exact ⟨fun n z => ⟨fun k h => (by cases h), k0, f03, e0, f04⟩, k0, e0, f03, f04, f01, f05⟩
    | 4, hq => cases hq; rw [y15]; exact ⟨fun n z => ⟨fun k h => (by cases h), k4, f43, e4, f44⟩, k4, e4, f43, f44, f41, f45⟩
    | 5, hq => cases hq; rw [y16]; exact ⟨fun n z => ⟨fun k h => (by cases h), kA, fA3, eA, fA4⟩, fA5⟩
    | k + 6, hq => simp [tyL] at hq
  have hX : Kx s := ⟨⟨va_AO.of (htsL _ wa5), va_AO.of (htsL _ wa0), va_AO.of (htsL _ wa4), over_moved (Vm.Alike.refl _) (htsL _ waA)⟩, va_Nw.of rfl (htsL _ wn_X0_20), va_Nw.of rfl (htsL _ wn_X0_27), va_Nw.of rfl (htsL _ wn_X0_34), va_Nw.of rfl (htsL _ wn_X0_41), va_Nw.of rfl (htsL _ wn_X2_17), va_Nw.of rfl (htsL _ wn_X3_17), va_Nw.of rfl (htsL _ wn_X4_17), va_Nw.of rfl (htsL _ wn_X7_17)⟩
  obtain ⟨base, hbase⟩ : ∃ q : Nat, q = s.heap.size := ⟨_, rfl⟩
  have hbA : ¬ (fun q : Nat => base ≤ q) b := by show ¬ base ≤ b; omega
  obtain ⟨v, hv0⟩ : ∃ v : VV, v = fun _ _ => 0 := ⟨_, rfl⟩
  obtain ⟨r, hr0⟩ : ∃ r : RR, r = fun _ _ => none := ⟨_, rfl⟩
  have hZ : Zr 0 v r := fun a _ => by rw [hv0, hr0]; exact ⟨rfl, rfl⟩
  have hP : va_P (dC, dI) vwCl (Wd base cy r v 0) s.heap := fun k q h => by simp [Wd] at h
  have hz : s.heap.size = base + 0 := by omega
  have hS : va_S (fun q => base ≤ q) s.heap s.heap [] := va_S.rf
  
  have loop : ∀ (q : Nat) (i n : Int32) (C : Nat) (v : VV) (H : Heap) (locs : List Loc) (ls : Array Slot), i.toInt = 5 * (C : Int) → L + 5 ≤ 5 * C + q → Jc n v v → IA (C : Int) n v → va_P (dC, dI) vwCl (Wd base cy rf v 874) H → va_S (fun q => base ≤ q) s.heap H locs → lv_has ls 4 [(3, .int i), (2, .ref (base + 816)), (1, .ref (base + 0)), (0, .ref b)] → W p l e room_1 s m #[Value.ref b] below meth c H locs 874 143829 (lw_Z below #[Value.ref b] s) (F0 m 18 ls []) := by
    have l1 : Int32.toInt 1 = 1 := by decide
    have l2 : Int32.toInt 2 = 2 := by decide
    have l3 : Int32.toInt 3 = 3 := by decide
    have l4 : Int32.toInt 4 = 4 := by decide
    have l5 : Int32.toInt 5 = 5 := by decide
    intro q
    induction q using Nat.strongRecOn with
    | ind q ih =>
      intro i n C v H locs ls hi hq J I hP hS hl
      have hn := I.n
      have hLt : (Int32.ofNat L).toInt = (L : Int) := by
        show (BitVec.ofNat 32 L).toInt = (L : Int)
        rw [BitVec.toInt_eq_toNat_cond, BitVec.toNat_ofNat, Nat.mod_eq_of_lt (by omega), if_pos (by omega)]
      refine lv_iload_n hx hb dL_law_18 rfl (lv_at hl 0 rfl) ?_
      refine lv_aload_n hx hb dL_law_19 rfl (lv_at hl 3 rfl) ?_
      refine va_slen hx hb hXs hbl hbA hS dL_law_20 ?_
      refine lv_topi (fun x20 ex20 => ?_)
      refine lv_iconst (v := 5) hx hb dL_law_21 (by decide) ?_
      refine lv_isub hx hb dL_law_22 ?_
      refine lv_topi (fun x22 ex22 => ?_)
      refine lv_icmp_gt (tgt := 522) hx hb dL_law_23 (by decide) (fun c23 => ?_) (fun c23 => ?_)
      · refine lv_iconst (v := 1) hx hb dL_law_522 (by decide) ?_
        refine va_forget (fun q hq => by have := hS.2.2 q hq; omega) ?_
        refine W.widen (k := 600000) (n := 7302250) (by decide) (by decide) ?_
        exact lw_ret hx hb hr hlocks dL_law_523
      · have c23 := i_nlt c23
        have i20 : x20.toInt = (L : Int) := by rw [ex20]; exact hLt
        have i22 := i_sub ex22 (by omega) (by omega)
        have hC : (C : Int) + 1 ≤ 512 := by omega
        have tail : ∀ (n' : Int32) (v' : VV) (H : Heap) (locs : List Loc) (ls : Array Slot), Jc n' v' v' → IA ((C : Int) + 1) n' v' → va_P (dC, dI) vwCl (Wd base cy rf v' 874) H → va_S (fun q => base ≤ q) s.heap H locs → lv_has ls 4 [(3, .int i), (2, .ref (base + 816)), (1, .ref (base + 0)), (0, .ref b)] → W p l e room_1 s m #[Value.ref b] below meth c H locs 874 143829 (lw_Z below #[Value.ref b] s) (F0 m 516 ls []) := by
          intro n' v' H locs ls J' I' hP hS hl
          obtain ⟨i5, e5⟩ : ∃ y : Int32, y = i + 5 := ⟨_, rfl⟩
          have hi5 := i_add e5 (by omega) (by omega)
          refine lv_iinc (v := i5) (lv' := [(3, .int i5), (2, .ref (base + 816)), (1, .ref (base + 0)), (0, .ref b)]) hx hb dL_law_516 hl (k := 0) rfl (by rw [e5]; rfl) (by decide) rfl (fun ls hl => ?_)
          refine lv_goto (tgt := 18) hx hb dL_law_519 (by decide) ?_
          exact ih (q - 5) (by omega) i5 n' (C + 1) v' H locs ls (by omega) (by omega) J' I' hP hS hl
        refine lv_aload_n hx hb dL_law_26 rfl (lv_at hl 3 rfl) ?_
        refine lv_iload_n hx hb dL_law_27 rfl (lv_at hl 0 rfl) ?_
        refine va_sld hx hb hXs hbl hbA hS (in_of (by omega) (by omega)) dL_law_28 ?_
        refine lv_topi (fun x28 ex28 => ?_)
        refine lv_bipush (v := 15) hx hb dL_law_29 (by decide) ?_
        refine lv_iand hx hb dL_law_31 ?_
        refine lv_topi (fun x31 ex31 => ?_)
        by_cases s32_0 : x31 = 0
        · refine lv_tableIn (tgt := 104) hx hb dL_law_32 (by rw [s32_0]; decide) (by rw [s32_0]; decide) (by rw [s32_0]; rfl) (by decide) ?_
          refine lv_aload_n hx hb dL_law_104 rfl (lv_at hl 2 rfl) ?_
          refine lv_aload_n hx hb dL_law_105 rfl (lv_at hl 3 rfl) ?_
          refine lv_iload_n hx hb dL_law_106 rfl (lv_at hl 0 rfl) ?_
          refine lv_iconst (v := 1) hx hb dL_law_107 (by decide) ?_
          refine lv_iadd hx hb dL_law_108 ?_
          refine lv_topi (fun x108 ex108 => ?_)
          refine va_sld hx hb hXs hbl hbA hS (by have hh := i_add ex108 (by omega) (by omega); exact in_of (by omega) (by omega)) dL_law_109 ?_
          refine lv_topi (fun x109 ex109 => ?_)
          refine k_I (As := [.int x109]) (rest := []) ⟨hx, hb, hml, hown, hts⟩ (t_X9_call l dC dI base cy x109 v (fun _ z => Jc n v z) (s_X9_call J x109 (fun _ _ j => j))) (cwV 1 hts (gV ml_L_13 mi_X9_call mx_X9_call mn_X9 mo_X9_call) rfl rfl rfl (by decide +kernel) ⟨by decide, by decide⟩) hK hP hS i9 (by decide) rfl rfl hl.1 rfl (Nat.le_of_ble_eq_true rfl) dL_law_110 ⟨by decide, by decide⟩ (fun x110 v1 H locs hv1 hP hS => ?_)
          have A1 := hv1
          have I1 := I.far A1.1
          refine lv_pop hx hb dL_law_113 rfl ?_
          refine lv_aload_n hx hb dL_law_114 rfl (lv_at hl 1 rfl) ?_
          refine lv_aload_n hx hb dL_law_115 rfl (lv_at hl 3 rfl) ?_
          refine lv_iload_n hx hb dL_law_116 rfl (lv_at hl 0 rfl) ?_
          refine lv_iconst (v := 1) hx hb dL_law_117 (by decide) ?_
          refine lv_iadd hx hb dL_law_118 ?_
          refine lv_topi (fun x118 ex118 => ?_)
          refine va_sld hx hb hXs hbl hbA hS (by have hh := i_add ex118 (by omega) (by omega); exact in_of (by omega) (by omega)) dL_law_119 ?_
          refine lv_topi (fun x119 ex119 => ?_)
          refine k_I (As := [.int x119]) (rest := []) ⟨hx, hb, hml, hown, hts⟩ (t_X10_call l dC dI base cy x119 v1 (fun _ z => IA ((C : Int) + 1) n z ∧ ∀ a, a < 816 → z a = v1 a) (s_X10_call I1 hC (fun _ _ h => h))) (cwV 1 hts (gV ml_L_17 mi_X10_call mx_X10_call mn_X10 mo_X10_call) rfl rfl rfl (by decide +kernel) ⟨by decide, by decide⟩) hK hP hS i10 (by decide) rfl rfl hl.1 rfl (Nat.le_of_ble_eq_true rfl) dL_law_120 ⟨by decide, by decide⟩ (fun x120 v2 H locs hv2 hP hS => ?_)
          have A2 := hv2.1
          have A3 := hv2.2
          refine lv_pop hx hb dL_law_123 rfl ?_
          refine lv_goto (tgt := 516) hx hb dL_law_124 (by decide) ?_
          exact tail _ _ _ _ _ (J_far A1 A3) A2 hP hS (lv_sub hl [0, 1, 2, 3] rfl)
        by_cases s32_1 : x31 = 1
        · refine lv_tableIn (tgt := 127) hx hb dL_law_32 (by rw [s32_1]; decide) (by rw [s32_1]; decide) (by rw [s32_1]; rfl) (by decide) ?_
          refine lv_aload_n hx hb dL_law_127 rfl (lv_at hl 2 rfl) ?_
          refine lv_aload_n hx hb dL_law_128 rfl (lv_at hl 3 rfl) ?_
          refine lv_iload_n hx hb dL_law_129 rfl (lv_at hl 0 rfl) ?_
          refine lv_iconst (v := 1) hx hb dL_law_130 (by decide) ?_
          refine lv_iadd hx hb dL_law_131 ?_
          refine lv_topi (fun x131 ex131 => ?_)
          refine va_sld hx hb hXs hbl hbA hS (by have hh := i_add ex131 (by omega) (by omega); exact in_of (by omega) (by omega)) dL_law_132 ?_
          refine lv_topi (fun x132 ex132 => ?_)
          refine lv_i2l hx hb dL_law_133 rfl ?_
          refine lv_topl (fun x133 ex133 => ?_)
          refine lv_bipush (v := 32) hx hb dL_law_134 (by decide) ?_
          refine lv_lshl hx hb dL_law_136 rfl ?_
          refine lv_topl (fun x136 ex136 => ?_)
          refine lv_aload_n hx hb dL_law_137 rfl (lv_at hl 3 rfl) ?_
          refine lv_iload_n hx hb dL_law_138 rfl (lv_at hl 0 rfl) ?_
          refine lv_iconst (v := 2) hx hb dL_law_139 (by decide) ?_
          refine lv_iadd hx hb dL_law_140 ?_
          refine lv_topi (fun x140 ex140 => ?_)
          refine va_sld hx hb hXs hbl hbA hS (by have hh := i_add ex140 (by omega) (by omega); exact in_of (by omega) (by omega)) dL_law_141 ?_
          refine lv_topi (fun x141 ex141 => ?_)
          refine lv_i2l hx hb dL_law_142 rfl ?_
          refine lv_topl (fun x142 ex142 => ?_)
          refine lv_ldc2 (v := 4294967295) hx hb hown (hts _ mkl_L_18) dL_law_143 ?_
          refine lv_land hx hb dL_law_146 ?_
          refine lv_topl (fun x146 ex146 => ?_)
          refine lv_lor hx hb dL_law_147 ?_
          refine lv_topl (fun x147 ex147 => ?_)
          refine lv_aload_n hx hb dL_law_148 rfl (lv_at hl 3 rfl) ?_
          refine lv_iload_n hx hb dL_law_149 rfl (lv_at hl 0 rfl) ?_
          refine lv_iconst (v := 3) hx hb dL_law_150 (by decide) ?_
          refine lv_iadd hx hb dL_law_151 ?_
          refine lv_topi (fun x151 ex151 => ?_)
          refine va_sld hx hb hXs hbl hbA hS (by have hh := i_add ex151 (by omega) (by omega); exact in_of (by omega) (by omega)) dL_law_152 ?_
          refine lv_topi (fun x152 ex152 => ?_)
          refine k_I (As := [.long x147, .int x152]) (rest := []) ⟨hx, hb, hml, hown, hts⟩ (t_X9_type l dC dI base cy x147 x152 v (fun _ z => Jc n v z) (s_X9_type J x147 x152 (fun _ _ j => j))) (cwV 2 hts (gV ml_L_20 mi_X9_type mx_X9_type mn_X9 mo_X9_type) rfl rfl rfl (by decide +kernel) ⟨by decide, by decide⟩) hK hP hS i9 (by decide) rfl rfl hl.1 rfl (Nat.le_of_ble_eq_true rfl) dL_law_153 ⟨by decide, by decide⟩ (fun x153 v3 H locs hv3 hP hS => ?_)
          have A1 := hv3
          have I1 := I.far A1.1
          refine lv_pop hx hb dL_law_156 rfl ?_
          refine lv_aload_n hx hb dL_law_157 rfl (lv_at hl 1 rfl) ?_
          refine lv_aload_n hx hb dL_law_158 rfl (lv_at hl 3 rfl) ?_
          refine lv_iload_n hx hb dL_law_159 rfl (lv_at hl 0 rfl) ?_
          refine lv_iconst (v := 1) hx hb dL_law_160 (by decide) ?_
          refine lv_iadd hx hb dL_law_161 ?_
          refine lv_topi (fun x161 ex161 => ?_)
          refine va_sld hx hb hXs hbl hbA hS (by have hh := i_add ex161 (by omega) (by omega); exact in_of (by omega) (by omega)) dL_law_162 ?_
          refine lv_topi (fun x162 ex162 => ?_)
          refine lv_i2l hx hb dL_law_163 rfl ?_
          refine lv_topl (fun x163 ex163 => ?_)
          refine lv_bipush (v := 32) hx hb dL_law_164 (by decide) ?_
          refine lv_lshl hx hb dL_law_166 rfl ?_
          refine lv_topl (fun x166 ex166 => ?_)
          refine lv_aload_n hx hb dL_law_167 rfl (lv_at hl 3 rfl) ?_
          refine lv_iload_n hx hb dL_law_168 rfl (lv_at hl 0 rfl) ?_
          refine lv_iconst (v := 2) hx hb dL_law_169 (by decide) ?_
          refine lv_iadd hx hb dL_law_170 ?_
          refine lv_topi (fun x170 ex170 => ?_)
          refine va_sld hx hb hXs hbl hbA hS (by have hh := i_add ex170 (by omega) (by omega); exact in_of (by omega) (by omega)) dL_law_171 ?_
          refine lv_topi (fun x171 ex171 => ?_)
          refine lv_i2l hx hb dL_law_172 rfl ?_
          refine lv_topl (fun x172 ex172 => ?_)
          refine lv_ldc2 (v := 4294967295) hx hb hown (hts _ mkl_L_18) dL_law_173 ?_
          refine lv_land hx hb dL_law_176 ?_
          refine lv_topl (fun x176 ex176 => ?_)
          refine lv_lor hx hb dL_law_177 ?_
          refine lv_topl (fun x177 ex177 => ?_)
          refine lv_aload_n hx hb dL_law_178 rfl (lv_at hl 3 rfl) ?_
          refine lv_iload_n hx hb dL_law_179 rfl (lv_at hl 0 rfl) ?_
          refine lv_iconst (v := 3) hx hb dL_law_180 (by decide) ?_
          refine lv_iadd hx hb dL_law_181 ?_
          refine lv_topi (fun x181 ex181 => ?_)
          refine va_sld hx hb hXs hbl hbA hS (by have hh := i_add ex181 (by omega) (by omega); exact in_of (by omega) (by omega)) dL_law_182 ?_
          refine lv_topi (fun x182 ex182 => ?_)
          refine k_I (As := [.long x177, .int x182]) (rest := []) ⟨hx, hb, hml, hown, hts⟩ (t_X10_type l dC dI base cy x177 x182 v3 (fun _ z => IA ((C : Int) + 1) n z ∧ ∀ a, a < 816 → z a = v3 a) (s_X10_type I1 hC (fun _ _ h => h))) (cwV 2 hts (gV ml_L_24 mi_X10_type mx_X10_type mn_X10 mo_X10_type) rfl rfl rfl (by decide +kernel) ⟨by decide, by decide⟩) hK hP hS i10 (by decide) rfl rfl hl.1 rfl (Nat.le_of_ble_eq_true rfl) dL_law_183 ⟨by decide, by decide⟩ (fun x183 v4 H locs hv4 hP hS => ?_)
          have A2 := hv4.1
          have A3 := hv4.2
          refine lv_pop hx hb dL_law_186 rfl ?_
          refine lv_goto (tgt := 516) hx hb dL_law_187 (by decide) ?_
          exact tail _ _ _ _ _ (J_far A1 A3) A2 hP hS (lv_sub hl [0, 1, 2, 3] rfl)
        by_cases s32_2 : x31 = 2
        · refine lv_tableIn (tgt := 190) hx hb dL_law_32 (by rw [s32_2]; decide) (by rw [s32_2]; decide) (by rw [s32_2]; rfl) (by decide) ?_
          refine lv_aload_n hx hb dL_law_190 rfl (lv_at hl 2 rfl) ?_
          refine lv_aload_n hx hb dL_law_191 rfl (lv_at hl 3 rfl) ?_
          refine lv_iload_n hx hb dL_law_192 rfl (lv_at hl 0 rfl) ?_
          refine lv_iconst (v := 1) hx hb dL_law_193 (by decide) ?_
          refine lv_iadd hx hb dL_law_194 ?_
          refine lv_topi (fun x194 ex194 => ?_)
          refine va_sld hx hb hXs hbl hbA hS (by have hh := i_add ex194 (by omega) (by omega); exact in_of (by omega) (by omega)) dL_law_195 ?_
          refine lv_topi (fun x195 ex195 => ?_)
          refine k_I (As := [.int x195]) (rest := []) ⟨hx, hb, hml, hown, hts⟩ (t_X9_send l dC dI base cy x195 v (fun _ z => Jc n v z) (s_X9_send J x195 (fun _ _ j => j))) (cwV 1 hts (gV ml_L_25 mi_X9_send mx_X9_send mn_X9 mo_X9_send) rfl rfl rfl (by decide +kernel) ⟨by decide, by decide⟩) hK hP hS i9 (by decide) rfl rfl hl.1 rfl (Nat.le_of_ble_eq_true rfl) dL_law_196 ⟨by decide, by decide⟩ (fun x196 v5 H locs hv5 hP hS => ?_)
          have A1 := hv5
          have I1 := I.far A1.1
          refine lv_pop hx hb dL_law_199 rfl ?_
          refine lv_aload_n hx hb dL_law_200 rfl (lv_at hl 1 rfl) ?_
          refine lv_aload_n hx hb dL_law_201 rfl (lv_at hl 3 rfl) ?_
          refine lv_iload_n hx hb dL_law_202 rfl (lv_at hl 0 rfl) ?_
          refine lv_iconst (v := 1) hx hb dL_law_203 (by decide) ?_
          refine lv_iadd hx hb dL_law_204 ?_
          refine lv_topi (fun x204 ex204 => ?_)
          refine va_sld hx hb hXs hbl hbA hS (by have hh := i_add ex204 (by omega) (by omega); exact in_of (by omega) (by omega)) dL_law_205 ?_
          refine lv_topi (fun x205 ex205 => ?_)
          refine k_I (As := [.int x205]) (rest := []) ⟨hx, hb, hml, hown, hts⟩ (t_X10_send l dC dI base cy x205 v5 (fun _ z => IA ((C : Int) + 1) n z ∧ ∀ a, a < 816 → z a = v5 a) (s_X10_send I1 hC (fun _ _ h => h))) (cwV 1 hts (gV ml_L_28 mi_X10_send mx_X10_send mn_X10 mo_X10_send) rfl rfl rfl (by decide +kernel) ⟨by decide, by decide⟩) hK hP hS i10 (by decide) rfl rfl hl.1 rfl (Nat.le_of_ble_eq_true rfl) dL_law_206 ⟨by decide, by decide⟩ (fun x206 v6 H locs hv6 hP hS => ?_)
          have A2 := hv6.1
          have A3 := hv6.2
          refine lv_pop hx hb dL_law_209 rfl ?_
          refine lv_goto (tgt := 516) hx hb dL_law_210 (by decide) ?_
          exact tail _ _ _ _ _ (J_far A1 A3) A2 hP hS (lv_sub hl [0, 1, 2, 3] rfl)
        by_cases s32_3 : x31 = 3
        · refine lv_tableIn (tgt := 213) hx hb dL_law_32 (by rw [s32_3]; decide) (by rw [s32_3]; decide) (by rw [s32_3]; rfl) (by decide) ?_
          refine lv_aload_n hx hb dL_law_213 rfl (lv_at hl 2 rfl) ?_
          refine lv_aload_n hx hb dL_law_214 rfl (lv_at hl 3 rfl) ?_
          refine lv_iload_n hx hb dL_law_215 rfl (lv_at hl 0 rfl) ?_
          refine lv_iconst (v := 1) hx hb dL_law_216 (by decide) ?_
          refine lv_iadd hx hb dL_law_217 ?_
          refine lv_topi (fun x217 ex217 => ?_)
          refine va_sld hx hb hXs hbl hbA hS (by have hh := i_add ex217 (by omega) (by omega); exact in_of (by omega) (by omega)) dL_law_218 ?_
          refine lv_topi (fun x218 ex218 => ?_)
          refine lv_aload_n hx hb dL_law_219 rfl (lv_at hl 3 rfl) ?_
          refine lv_iload_n hx hb dL_law_220 rfl (lv_at hl 0 rfl) ?_
          refine lv_iconst (v := 2) hx hb dL_law_221 (by decide) ?_
          refine lv_iadd hx hb dL_law_222 ?_
          refine lv_topi (fun x222 ex222 => ?_)
          refine va_sld hx hb hXs hbl hbA hS (by have hh := i_add ex222 (by omega) (by omega); exact in_of (by omega) (by omega)) dL_law_223 ?_
          refine lv_topi (fun x223 ex223 => ?_)
          refine k_I (As := [.int x218, .int x223]) (rest := []) ⟨hx, hb, hml, hown, hts⟩ (t_X9_urge l dC dI base cy x218 x223 v (fun _ z => Jc n v z) (s_X9_urge J x218 x223 (fun _ _ j => j))) (cwV 2 hts (gV ml_L_29 mi_X9_urge mx_X9_urge mn_X9 mo_X9_urge) rfl rfl rfl (by decide +kernel) ⟨by decide, by decide⟩) hK hP hS i9 (by decide) rfl rfl hl.1 rfl (Nat.le_of_ble_eq_true rfl) dL_law_224 ⟨by decide, by decide⟩ (fun x224 v7 H locs hv7 hP hS => ?_)
          have A1 := hv7
          have I1 := I.far A1.1
          refine lv_pop hx hb dL_law_227 rfl ?_
          refine lv_aload_n hx hb dL_law_228 rfl (lv_at hl 1 rfl) ?_
          refine lv_aload_n hx hb dL_law_229 rfl (lv_at hl 3 rfl) ?_
          refine lv_iload_n hx hb dL_law_230 rfl (lv_at hl 0 rfl) ?_
          refine lv_iconst (v := 1) hx hb dL_law_231 (by decide) ?_
          refine lv_iadd hx hb dL_law_232 ?_
          refine lv_topi (fun x232 ex232 => ?_)
          refine va_sld hx hb hXs hbl hbA hS (by have hh := i_add ex232 (by omega) (by omega); exact in_of (by omega) (by omega)) dL_law_233 ?_
          refine lv_topi (fun x233 ex233 => ?_)
          refine lv_aload_n hx hb dL_law_234 rfl (lv_at hl 3 rfl) ?_
          refine lv_iload_n hx hb dL_law_235 rfl (lv_at hl 0 rfl) ?_
          refine lv_iconst (v := 2) hx hb dL_law_236 (by decide) ?_
          refine lv_iadd hx hb dL_law_237 ?_
          refine lv_topi (fun x237 ex237 => ?_)
          refine va_sld hx hb hXs hbl hbA hS (by have hh := i_add ex237 (by omega) (by omega); exact in_of (by omega) (by omega)) dL_law_238 ?_
          refine lv_topi (fun x238 ex238 => ?_)
          refine k_I (As := [.int x233, .int x238]) (rest := []) ⟨hx, hb, hml, hown, hts⟩ (t_X10_urge l dC dI base cy x233 x238 v7 (fun _ z => IA ((C : Int) + 1) n z ∧ ∀ a, a < 816 → z a = v7 a) (s_X10_urge I1 hC (fun _ _ h => h))) (cwV 2 hts (gV ml_L_33 mi_X10_urge mx_X10_urge mn_X10 mo_X10_urge) rfl rfl rfl (by decide +kernel) ⟨by decide, by decide⟩) hK hP hS i10 (by decide) rfl rfl hl.1 rfl (Nat.le_of_ble_eq_true rfl) dL_law_239 ⟨by decide, by decide⟩ (fun x239 v8 H locs hv8 hP hS => ?_)
          have A2 := hv8.1
          have A3 := hv8.2
          refine lv_pop hx hb dL_law_242 rfl ?_
          refine lv_goto (tgt := 516) hx hb dL_law_243 (by decide) ?_
          exact tail _ _ _ _ _ (J_far A1 A3) A2 hP hS (lv_sub hl [0, 1, 2, 3] rfl)
        by_cases s32_4 : x31 = 4
        · refine lv_tableIn (tgt := 246) hx hb dL_law_32 (by rw [s32_4]; decide) (by rw [s32_4]; decide) (by rw [s32_4]; rfl) (by decide) ?_
          refine lv_aload_n hx hb dL_law_246 rfl (lv_at hl 2 rfl) ?_
          refine lv_aload_n hx hb dL_law_247 rfl (lv_at hl 3 rfl) ?_
          refine lv_iload_n hx hb dL_law_248 rfl (lv_at hl 0 rfl) ?_
          refine lv_iconst (v := 1) hx hb dL_law_249 (by decide) ?_
          refine lv_iadd hx hb dL_law_250 ?_
          refine lv_topi (fun x250 ex250 => ?_)
          refine va_sld hx hb hXs hbl hbA hS (by have hh := i_add ex250 (by omega) (by omega); exact in_of (by omega) (by omega)) dL_law_251 ?_
          refine lv_topi (fun x251 ex251 => ?_)
          refine k_I (As := [.int x251]) (rest := []) ⟨hx, hb, hml, hown, hts⟩ (t_X9_end l dC dI base cy x251 v (fun _ z => Jc n v z) (s_X9_end J x251 (fun _ _ j => j))) (cwV 1 hts (gV ml_L_34 mi_X9_end mx_X9_end mn_X9 mo_X9_end) rfl rfl rfl (by decide +kernel) ⟨by decide, by decide⟩) hK hP hS i9 (by decide) rfl rfl hl.1 rfl (Nat.le_of_ble_eq_true rfl) dL_law_252 ⟨by decide, by decide⟩ (fun x252 v9 H locs hv9 hP hS => ?_)
          have A1 := hv9
          have I1 := I.far A1.1
          refine lv_pop hx hb dL_law_255 rfl ?_
          refine lv_aload_n hx hb dL_law_256 rfl (lv_at hl 1 rfl) ?_
          refine lv_aload_n hx hb dL_law_257 rfl (lv_at hl 3 rfl) ?_
          refine lv_iload_n hx hb dL_law_258 rfl (lv_at hl 0 rfl) ?_
          refine lv_iconst (v := 1) hx hb dL_law_259 (by decide) ?_
          refine lv_iadd hx hb dL_law_260 ?_
          refine lv_topi (fun x260 ex260 => ?_)
          refine va_sld hx hb hXs hbl hbA hS (by have hh := i_add ex260 (by omega) (by omega); exact in_of (by omega) (by omega)) dL_law_261 ?_
          refine lv_topi (fun x261 ex261 => ?_)
          refine k_I (As := [.int x261]) (rest := []) ⟨hx, hb, hml, hown, hts⟩ (t_X10_end l dC dI base cy x261 v9 (fun _ z => IA ((C : Int) + 1) n z ∧ ∀ a, a < 816 → z a = v9 a) (s_X10_end I1 hC (fun _ _ h => h))) (cwV 1 hts (gV ml_L_37 mi_X10_end mx_X10_end mn_X10 mo_X10_end) rfl rfl rfl (by decide +kernel) ⟨by decide, by decide⟩) hK hP hS i10 (by decide) rfl rfl hl.1 rfl (Nat.le_of_ble_eq_true rfl) dL_law_262 ⟨by decide, by decide⟩ (fun x262 v10 H locs hv10 hP hS => ?_)
          have A2 := hv10.1
          have A3 := hv10.2
          refine lv_pop hx hb dL_law_265 rfl ?_
          refine lv_goto (tgt := 516) hx hb dL_law_266 (by decide) ?_
          exact tail _ _ _ _ _ (J_far A1 A3) A2 hP hS (lv_sub hl [0, 1, 2, 3] rfl)
        by_cases s32_5 : x31 = 5
        · refine lv_tableIn (tgt := 269) hx hb dL_law_32 (by rw [s32_5]; decide) (by rw [s32_5]; decide) (by rw [s32_5]; rfl) (by decide) ?_
          refine lv_aload_n hx hb dL_law_269 rfl (lv_at hl 2 rfl) ?_
          refine lv_aload_n hx hb dL_law_270 rfl (lv_at hl 3 rfl) ?_
          refine lv_iload_n hx hb dL_law_271 rfl (lv_at hl 0 rfl) ?_
          refine lv_iconst (v := 1) hx hb dL_law_272 (by decide) ?_
          refine lv_iadd hx hb dL_law_273 ?_
          refine lv_topi (fun x273 ex273 => ?_)
          refine va_sld hx hb hXs hbl hbA hS (by have hh := i_add ex273 (by omega) (by omega); exact in_of (by omega) (by omega)) dL_law_274 ?_
          refine lv_topi (fun x274 ex274 => ?_)
          refine k_I (As := [.int x274]) (rest := []) ⟨hx, hb, hml, hown, hts⟩ (t_X9_take l dC dI base cy x274 v (fun _ z => Jc n v z) (s_X9_take J x274 (fun _ _ j => j))) (cwV 1 hts (gV ml_L_38 mi_X9_take mx_X9_take mn_X9 mo_X9_take) rfl rfl rfl (by decide +kernel) ⟨by decide, by decide⟩) hK hP hS i9 (by decide) rfl rfl hl.1 rfl (Nat.le_of_ble_eq_true rfl) dL_law_275 ⟨by decide, by decide⟩ (fun x275 v11 H locs hv11 hP hS => ?_)
          have A1 := hv11
          have I1 := I.far A1.1
          refine lv_pop hx hb dL_law_278 rfl ?_
          refine lv_aload_n hx hb dL_law_279 rfl (lv_at hl 1 rfl) ?_
          refine lv_aload_n hx hb dL_law_280 rfl (lv_at hl 3 rfl) ?_
          refine lv_iload_n hx hb dL_law_281 rfl (lv_at hl 0 rfl) ?_
          refine lv_iconst (v := 1) hx hb dL_law_282 (by decide) ?_
          refine lv_iadd hx hb dL_law_283 ?_
          refine lv_topi (fun x283 ex283 => ?_)
          refine va_sld hx hb hXs hbl hbA hS (by have hh := i_add ex283 (by omega) (by omega); exact in_of (by omega) (by omega)) dL_law_284 ?_
          refine lv_topi (fun x284 ex284 => ?_)
          refine k_I (As := [.int x284]) (rest := []) ⟨hx, hb, hml, hown, hts⟩ (t_X10_take l dC dI base cy x284 v11 (fun _ z => IA ((C : Int) + 1) n z ∧ ∀ a, a < 816 → z a = v11 a) (s_X10_take I1 hC (fun _ _ h => h))) (cwV 1 hts (gV ml_L_41 mi_X10_take mx_X10_take mn_X10 mo_X10_take) rfl rfl rfl (by decide +kernel) ⟨by decide, by decide⟩) hK hP hS i10 (by decide) rfl rfl hl.1 rfl (Nat.le_of_ble_eq_true rfl) dL_law_285 ⟨by decide, by decide⟩ (fun x285 v12 H locs hv12 hP hS => ?_)
          have A2 := hv12.1
          have A3 := hv12.2
          refine lv_pop hx hb dL_law_288 rfl ?_
          refine lv_goto (tgt := 516) hx hb dL_law_289 (by decide) ?_
          exact tail _ _ _ _ _ (J_far A1 A3) A2 hP hS (lv_sub hl [0, 1, 2, 3] rfl)
        by_cases s32_6 : x31 = 6
        · refine lv_tableIn (tgt := 292) hx hb dL_law_32 (by rw [s32_6]; decide) (by rw [s32_6]; decide) (by rw [s32_6]; rfl) (by decide) ?_
          refine lv_aload_n hx hb dL_law_292 rfl (lv_at hl 2 rfl) ?_
          refine lv_aload_n hx hb dL_law_293 rfl (lv_at hl 3 rfl) ?_
          refine lv_iload_n hx hb dL_law_294 rfl (lv_at hl 0 rfl) ?_
          refine lv_iconst (v := 1) hx hb dL_law_295 (by decide) ?_
          refine lv_iadd hx hb dL_law_296 ?_
          refine lv_topi (fun x296 ex296 => ?_)
          refine va_sld hx hb hXs hbl hbA hS (by have hh := i_add ex296 (by omega) (by omega); exact in_of (by omega) (by omega)) dL_law_297 ?_
          refine lv_topi (fun x297 ex297 => ?_)
          refine lv_aload_n hx hb dL_law_298 rfl (lv_at hl 3 rfl) ?_
          refine lv_iload_n hx hb dL_law_299 rfl (lv_at hl 0 rfl) ?_
          refine lv_iconst (v := 2) hx hb dL_law_300 (by decide) ?_
          refine lv_iadd hx hb dL_law_301 ?_
          refine lv_topi (fun x301 ex301 => ?_)
          refine va_sld hx hb hXs hbl hbA hS (by have hh := i_add ex301 (by omega) (by omega); exact in_of (by omega) (by omega)) dL_law_302 ?_
          refine lv_topi (fun x302 ex302 => ?_)
          refine k_I (As := [.int x297, .int x302]) (rest := []) ⟨hx, hb, hml, hown, hts⟩ (t_X9_read l dC dI base cy x297 x302 v (fun _ z => Jc n v z) (s_X9_read J x297 x302 (fun _ _ j => j))) (cwV 2 hts (gV ml_L_42 mi_X9_read mx_X9_read mn_X9 mo_X9_read) rfl rfl rfl (by decide +kernel) ⟨by decide, by decide⟩) hK hP hS i9 (by decide) rfl rfl hl.1 rfl (Nat.le_of_ble_eq_true rfl) dL_law_303 ⟨by decide, by decide⟩ (fun x303 v13 H locs hv13 hP hS => ?_)
          have A1 := hv13
          have I1 := I.far A1.1
          refine lv_pop hx hb dL_law_306 rfl ?_
          refine lv_aload_n hx hb dL_law_307 rfl (lv_at hl 1 rfl) ?_
          refine lv_aload_n hx hb dL_law_308 rfl (lv_at hl 3 rfl) ?_
          refine lv_iload_n hx hb dL_law_309 rfl (lv_at hl 0 rfl) ?_
          refine lv_iconst (v := 1) hx hb dL_law_310 (by decide) ?_
          refine lv_iadd hx hb dL_law_311 ?_
          refine lv_topi (fun x311 ex311 => ?_)
          refine va_sld hx hb hXs hbl hbA hS (by have hh := i_add ex311 (by omega) (by omega); exact in_of (by omega) (by omega)) dL_law_312 ?_
          refine lv_topi (fun x312 ex312 => ?_)
          refine lv_aload_n hx hb dL_law_313 rfl (lv_at hl 3 rfl) ?_
          refine lv_iload_n hx hb dL_law_314 rfl (lv_at hl 0 rfl) ?_
          refine lv_iconst (v := 2) hx hb dL_law_315 (by decide) ?_
          refine lv_iadd hx hb dL_law_316 ?_
          refine lv_topi (fun x316 ex316 => ?_)
          refine va_sld hx hb hXs hbl hbA hS (by have hh := i_add ex316 (by omega) (by omega); exact in_of (by omega) (by omega)) dL_law_317 ?_
          refine lv_topi (fun x317 ex317 => ?_)
          refine k_I (As := [.int x312, .int x317]) (rest := []) ⟨hx, hb, hml, hown, hts⟩ (t_X10_read l dC dI base cy x312 x317 v13 (fun _ z => IA ((C : Int) + 1) n z ∧ ∀ a, a < 816 → z a = v13 a) (s_X10_read I1 (fun _ => ⟨I1.still hC, fun _ _ => rfl⟩))) (cwV 2 hts (gV ml_L_45 mi_X10_read mx_X10_read mn_X10 mo_X10_read) rfl rfl rfl (by decide +kernel) ⟨by decide, by decide⟩) hK hP hS i10 (by decide) rfl rfl hl.1 rfl (Nat.le_of_ble_eq_true rfl) dL_law_318 ⟨by decide, by decide⟩ (fun x318 v14 H locs hv14 hP hS => ?_)
          have A2 := hv14.1
          have A3 := hv14.2
          refine lv_pop hx hb dL_law_321 rfl ?_
          refine lv_goto (tgt := 516) hx hb dL_law_322 (by decide) ?_
          exact tail _ _ _ _ _ (J_far A1 A3) A2 hP hS (lv_sub hl [0, 1, 2, 3] rfl)
        by_cases s32_7 : x31 = 7
        · refine lv_tableIn (tgt := 325) hx hb dL_law_32 (by rw [s32_7]; decide) (by rw [s32_7]; decide) (by rw [s32_7]; rfl) (by decide) ?_
          refine lv_aload_n hx hb dL_law_325 rfl (lv_at hl 2 rfl) ?_
          refine lv_aload_n hx hb dL_law_326 rfl (lv_at hl 3 rfl) ?_
          refine lv_iload_n hx hb dL_law_327 rfl (lv_at hl 0 rfl) ?_
          refine lv_iconst (v := 1) hx hb dL_law_328 (by decide) ?_
          refine lv_iadd hx hb dL_law_329 ?_
          refine lv_topi (fun x329 ex329 => ?_)
          refine va_sld hx hb hXs hbl hbA hS (by have hh := i_add ex329 (by omega) (by omega); exact in_of (by omega) (by omega)) dL_law_330 ?_
          refine lv_topi (fun x330 ex330 => ?_)
          refine k_I (As := [.int x330]) (rest := []) ⟨hx, hb, hml, hown, hts⟩ (t_X9_urgent l dC dI base cy x330 v (fun _ z => Jc n v z) (s_X9_urgent J x330 (fun _ _ j => j))) (cwV 1 hts (gV ml_L_46 mi_X9_urgent mx_X9_urgent mn_X9 mo_X9_urgent) rfl rfl rfl (by decide +kernel) ⟨by decide, by decide⟩) hK hP hS i9 (by decide) rfl rfl hl.1 rfl (Nat.le_of_ble_eq_true rfl) dL_law_331 ⟨by decide, by decide⟩ (fun x331 v15 H locs hv15 hP hS => ?_)
          have A1 := hv15
          have I1 := I.far A1.1
          refine lv_pop hx hb dL_law_334 rfl ?_
          refine lv_aload_n hx hb dL_law_335 rfl (lv_at hl 1 rfl) ?_
          refine lv_aload_n hx hb dL_law_336 rfl (lv_at hl 3 rfl) ?_
          refine lv_iload_n hx hb dL_law_337 rfl (lv_at hl 0 rfl) ?_
          refine lv_iconst (v := 1) hx hb dL_law_338 (by decide) ?_
          refine lv_iadd hx hb dL_law_339 ?_
          refine lv_topi (fun x339 ex339 => ?_)
          refine va_sld hx hb hXs hbl hbA hS (by have hh := i_add ex339 (by omega) (by omega); exact in_of (by omega) (by omega)) dL_law_340 ?_
          refine lv_topi (fun x340 ex340 => ?_)
          refine k_I (As := [.int x340]) (rest := []) ⟨hx, hb, hml, hown, hts⟩ (t_X10_urgent l dC dI base cy x340 v15 (fun _ z => IA ((C : Int) + 1) n z ∧ ∀ a, a < 816 → z a = v15 a) (s_X10_urgent I1 hC (fun _ _ h => h))) (cwV 1 hts (gV ml_L_49 mi_X10_urgent mx_X10_urgent mn_X10 mo_X10_urgent) rfl rfl rfl (by decide +kernel) ⟨by decide, by decide⟩) hK hP hS i10 (by decide) rfl rfl hl.1 rfl (Nat.le_of_ble_eq_true rfl) dL_law_341 ⟨by decide, by decide⟩ (fun x341 v16 H locs hv16 hP hS => ?_)
          have A2 := hv16.1
          have A3 := hv16.2
          refine lv_pop hx hb dL_law_344 rfl ?_
          refine lv_goto (tgt := 516) hx hb dL_law_345 (by decide) ?_
          exact tail _ _ _ _ _ (J_far A1 A3) A2 hP hS (lv_sub hl [0, 1, 2, 3] rfl)
        by_cases s32_8 : x31 = 8
        · refine lv_tableIn (tgt := 348) hx hb dL_law_32 (by rw [s32_8]; decide) (by rw [s32_8]; decide) (by rw [s32_8]; rfl) (by decide) ?_
          refine lv_aload_n hx hb dL_law_348 rfl (lv_at hl 2 rfl) ?_
          refine lv_aload_n hx hb dL_law_349 rfl (lv_at hl 3 rfl) ?_
          refine lv_iload_n hx hb dL_law_350 rfl (lv_at hl 0 rfl) ?_
          refine lv_iconst (v := 1) hx hb dL_law_351 (by decide) ?_
          refine lv_iadd hx hb dL_law_352 ?_
          refine lv_topi (fun x352 ex352 => ?_)
          refine va_sld hx hb hXs hbl hbA hS (by have hh := i_add ex352 (by omega) (by omega); exact in_of (by omega) (by omega)) dL_law_353 ?_
          refine lv_topi (fun x353 ex353 => ?_)
          refine lv_aload_n hx hb dL_law_354 rfl (lv_at hl 3 rfl) ?_
          refine lv_iload_n hx hb dL_law_355 rfl (lv_at hl 0 rfl) ?_
          refine lv_iconst (v := 2) hx hb dL_law_356 (by decide) ?_
          refine lv_iadd hx hb dL_law_357 ?_
          refine lv_topi (fun x357 ex357 => ?_)
          refine va_sld hx hb hXs hbl hbA hS (by have hh := i_add ex357 (by omega) (by omega); exact in_of (by omega) (by omega)) dL_law_358 ?_
          refine lv_topi (fun x358 ex358 => ?_)
          refine lv_aload_n hx hb dL_law_359 rfl (lv_at hl 3 rfl) ?_
          refine lv_iload_n hx hb dL_law_360 rfl (lv_at hl 0 rfl) ?_
          refine lv_iconst (v := 3) hx hb dL_law_361 (by decide) ?_
          refine lv_iadd hx hb dL_law_362 ?_
          refine lv_topi (fun x362 ex362 => ?_)
          refine va_sld hx hb hXs hbl hbA hS (by have hh := i_add ex362 (by omega) (by omega); exact in_of (by omega) (by omega)) dL_law_363 ?_
          refine lv_topi (fun x363 ex363 => ?_)
          refine lv_aload_n hx hb dL_law_364 rfl (lv_at hl 3 rfl) ?_
          refine lv_iload_n hx hb dL_law_365 rfl (lv_at hl 0 rfl) ?_
          refine lv_iconst (v := 4) hx hb dL_law_366 (by decide) ?_
          refine lv_iadd hx hb dL_law_367 ?_
          refine lv_topi (fun x367 ex367 => ?_)
          refine va_sld hx hb hXs hbl hbA hS (by have hh := i_add ex367 (by omega) (by omega); exact in_of (by omega) (by omega)) dL_law_368 ?_
          refine lv_topi (fun x368 ex368 => ?_)
          refine k_I (As := [.int x353, .int x358, .int x363, .int x368]) (rest := []) ⟨hx, hb, hml, hown, hts⟩ (t_X9_fault l dC dI base cy x353 x358 x363 x368 v (fun _ z => Jc n v z) (s_X9_fault J x353 x358 x363 x368 (fun _ _ j => j))) (cwV 4 hts (gV ml_L_50 mi_X9_fault mx_X9_fault mn_X9 mo_X9_fault) rfl rfl rfl (by decide +kernel) ⟨by decide, by decide⟩) hK hP hS i9 (by decide) rfl rfl hl.1 rfl (Nat.le_of_ble_eq_true rfl) dL_law_369 ⟨by decide, by decide⟩ (fun x369 v17 H locs hv17 hP hS => ?_)
          have A1 := hv17
          have I1 := I.far A1.1
          refine lv_pop hx hb dL_law_372 rfl ?_
          refine lv_aload_n hx hb dL_law_373 rfl (lv_at hl 1 rfl) ?_
          refine lv_aload_n hx hb dL_law_374 rfl (lv_at hl 3 rfl) ?_
          refine lv_iload_n hx hb dL_law_375 rfl (lv_at hl 0 rfl) ?_
          refine lv_iconst (v := 1) hx hb dL_law_376 (by decide) ?_
          refine lv_iadd hx hb dL_law_377 ?_
          refine lv_topi (fun x377 ex377 => ?_)
          refine va_sld hx hb hXs hbl hbA hS (by have hh := i_add ex377 (by omega) (by omega); exact in_of (by omega) (by omega)) dL_law_378 ?_
          refine lv_topi (fun x378 ex378 => ?_)
          refine lv_aload_n hx hb dL_law_379 rfl (lv_at hl 3 rfl) ?_
          refine lv_iload_n hx hb dL_law_380 rfl (lv_at hl 0 rfl) ?_
          refine lv_iconst (v := 2) hx hb dL_law_381 (by decide) ?_
          refine lv_iadd hx hb dL_law_382 ?_
          refine lv_topi (fun x382 ex382 => ?_)
          refine va_sld hx hb hXs hbl hbA hS (by have hh := i_add ex382 (by omega) (by omega); exact in_of (by omega) (by omega)) dL_law_383 ?_
          refine lv_topi (fun x383 ex383 => ?_)
          refine lv_aload_n hx hb dL_law_384 rfl (lv_at hl 3 rfl) ?_
          refine lv_iload_n hx hb dL_law_385 rfl (lv_at hl 0 rfl) ?_
          refine lv_iconst (v := 3) hx hb dL_law_386 (by decide) ?_
          refine lv_iadd hx hb dL_law_387 ?_
          refine lv_topi (fun x387 ex387 => ?_)
          refine va_sld hx hb hXs hbl hbA hS (by have hh := i_add ex387 (by omega) (by omega); exact in_of (by omega) (by omega)) dL_law_388 ?_
          refine lv_topi (fun x388 ex388 => ?_)
          refine lv_aload_n hx hb dL_law_389 rfl (lv_at hl 3 rfl) ?_
          refine lv_iload_n hx hb dL_law_390 rfl (lv_at hl 0 rfl) ?_
          refine lv_iconst (v := 4) hx hb dL_law_391 (by decide) ?_
          refine lv_iadd hx hb dL_law_392 ?_
          refine lv_topi (fun x392 ex392 => ?_)
          refine va_sld hx hb hXs hbl hbA hS (by have hh := i_add ex392 (by omega) (by omega); exact in_of (by omega) (by omega)) dL_law_393 ?_
          refine lv_topi (fun x393 ex393 => ?_)
          refine k_I (As := [.int x378, .int x383, .int x388, .int x393]) (rest := []) ⟨hx, hb, hml, hown, hts⟩ (t_X10_fault l dC dI base cy x378 x383 x388 x393 v17 (fun _ z => IA ((C : Int) + 1) n z ∧ ∀ a, a < 816 → z a = v17 a) (s_X10_fault I1 hC (fun _ _ h => h))) (cwV 4 hts (gV ml_L_54 mi_X10_fault mx_X10_fault mn_X10 mo_X10_fault) rfl rfl rfl (by decide +kernel) ⟨by decide, by decide⟩) hK hP hS i10 (by decide) rfl rfl hl.1 rfl (Nat.le_of_ble_eq_true rfl) dL_law_394 ⟨by decide, by decide⟩ (fun x394 v18 H locs hv18 hP hS => ?_)
          have A2 := hv18.1
          have A3 := hv18.2
          refine lv_pop hx hb dL_law_397 rfl ?_
          refine lv_goto (tgt := 516) hx hb dL_law_398 (by decide) ?_
          exact tail _ _ _ _ _ (J_far A1 A3) A2 hP hS (lv_sub hl [0, 1, 2, 3] rfl)
        by_cases s32_9 : x31 = 9
        · refine lv_tableIn (tgt := 401) hx hb dL_law_32 (by rw [s32_9]; decide) (by rw [s32_9]; decide) (by rw [s32_9]; rfl) (by decide) ?_
          refine lv_aload_n hx hb dL_law_401 rfl (lv_at hl 2 rfl) ?_
          refine lv_aload_n hx hb dL_law_402 rfl (lv_at hl 3 rfl) ?_
          refine lv_iload_n hx hb dL_law_403 rfl (lv_at hl 0 rfl) ?_
          refine lv_iconst (v := 1) hx hb dL_law_404 (by decide) ?_
          refine lv_iadd hx hb dL_law_405 ?_
          refine lv_topi (fun x405 ex405 => ?_)
          refine va_sld hx hb hXs hbl hbA hS (by have hh := i_add ex405 (by omega) (by omega); exact in_of (by omega) (by omega)) dL_law_406 ?_
          refine lv_topi (fun x406 ex406 => ?_)
          refine k_I (As := [.int x406]) (rest := []) ⟨hx, hb, hml, hown, hts⟩ (t_X9_tick l dC dI base cy x406 v (fun y z => Jc (tkn n x406) v z ∧ y = tka n x406) (s_X9_tick J hn x406 (fun _ _ j ey => ⟨j, ey⟩))) (cwV 1 hts (gV ml_L_55 mi_X9_tick mx_X9_tick mn_X9 mo_X9_tick) rfl rfl rfl (by decide +kernel) ⟨by decide, by decide⟩) hK hP hS i9 (by decide) rfl rfl hl.1 rfl (Nat.le_of_ble_eq_true rfl) dL_law_407 ⟨by decide, by decide⟩ (fun x407 v19 H locs hv19 hP hS => ?_)
          have A1 := hv19.1
          have A4 := hv19.2
          have I1 := I.far A1.1
          refine lv_aload_n hx hb dL_law_410 rfl (lv_at hl 1 rfl) ?_
          refine lv_aload_n hx hb dL_law_411 rfl (lv_at hl 3 rfl) ?_
          refine lv_iload_n hx hb dL_law_412 rfl (lv_at hl 0 rfl) ?_
          refine lv_iconst (v := 1) hx hb dL_law_413 (by decide) ?_
          refine lv_iadd hx hb dL_law_414 ?_
          refine lv_topi (fun x414 ex414 => ?_)
          refine va_sld hx hb hXs hbl hbA hS (by have hh := i_add ex414 (by omega) (by omega); exact in_of (by omega) (by omega)) dL_law_415 ?_
          refine lv_topi (fun x415 ex415 => ?_)
          refine k_I (As := [.int x415]) (rest := [.int x407]) ⟨hx, hb, hml, hown, hts⟩ (t_X10_tick l dC dI base cy x415 v19 (fun y z => (IA ((C : Int) + 1) (tkn n x415) z ∧ ∀ a, a < 816 → z a = v19 a) ∧ y = tka n x415) (s_X10_tick I1 hC (fun _ _ h1 h2 h3 => ⟨⟨h1, h3⟩, h2⟩))) (cwV 1 hts (gV ml_L_58 mi_X10_tick mx_X10_tick mn_X10 mo_X10_tick) rfl rfl rfl (by decide +kernel) ⟨by decide, by decide⟩) hK hP hS i10 (by decide) rfl rfl hl.1 rfl (Nat.le_of_ble_eq_true rfl) dL_law_416 ⟨by decide, by decide⟩ (fun x416 v20 H locs hv20 hP hS => ?_)
          have z414 : x414 = x405 := by rw [ex414, ex405]
          have z415 : x415 = x406 := by rw [ex415, ex406, z414]
          have hh2 := hv20
          rw [z415] at hh2
          have A2 := hh2.1.1
          have A3 := hh2.1.2
          have A5 := hh2.2
          refine lv_icmp_eq (tgt := 516) hx hb dL_law_419 (by decide) (fun c419 => ?_) (fun c419 => ?_)
          · exact tail _ _ _ _ _ (J_far A1 A3) A2 hP hS (lv_sub hl [0, 1, 2, 3] rfl)
          · exact absurd (A4.trans A5.symm) c419
        by_cases s32_10 : x31 = 10
        · refine lv_tableIn (tgt := 424) hx hb dL_law_32 (by rw [s32_10]; decide) (by rw [s32_10]; decide) (by rw [s32_10]; rfl) (by decide) ?_
          refine lv_aload_n hx hb dL_law_424 rfl (lv_at hl 2 rfl) ?_
          refine lv_aload_n hx hb dL_law_425 rfl (lv_at hl 3 rfl) ?_
          refine lv_iload_n hx hb dL_law_426 rfl (lv_at hl 0 rfl) ?_
          refine lv_iconst (v := 1) hx hb dL_law_427 (by decide) ?_
          refine lv_iadd hx hb dL_law_428 ?_
          refine lv_topi (fun x428 ex428 => ?_)
          refine va_sld hx hb hXs hbl hbA hS (by have hh := i_add ex428 (by omega) (by omega); exact in_of (by omega) (by omega)) dL_law_429 ?_
          refine lv_topi (fun x429 ex429 => ?_)
          refine lv_aload_n hx hb dL_law_430 rfl (lv_at hl 3 rfl) ?_
          refine lv_iload_n hx hb dL_law_431 rfl (lv_at hl 0 rfl) ?_
          refine lv_iconst (v := 2) hx hb dL_law_432 (by decide) ?_
          refine lv_iadd hx hb dL_law_433 ?_
          refine lv_topi (fun x433 ex433 => ?_)
          refine va_sld hx hb hXs hbl hbA hS (by have hh := i_add ex433 (by omega) (by omega); exact in_of (by omega) (by omega)) dL_law_434 ?_
          refine lv_topi (fun x434 ex434 => ?_)
          refine k_I (As := [.int x429, .int x434]) (rest := []) ⟨hx, hb, hml, hown, hts⟩ (t_X9_told l dC dI base cy x429 x434 v (fun _ z => Jc n v z) (s_X9_told J x429 x434 (fun _ _ j => j))) (cwV 2 hts (gV ml_L_59 mi_X9_told mx_X9_told mn_X9 mo_X9_told) rfl rfl rfl (by decide +kernel) ⟨by decide, by decide⟩) hK hP hS i9 (by decide) rfl rfl hl.1 rfl (Nat.le_of_ble_eq_true rfl) dL_law_435 ⟨by decide, by decide⟩ (fun x435 v21 H locs hv21 hP hS => ?_)
          have A1 := hv21
          have I1 := I.far A1.1
          refine lv_pop hx hb dL_law_438 rfl ?_
          refine lv_aload_n hx hb dL_law_439 rfl (lv_at hl 1 rfl) ?_
          refine lv_aload_n hx hb dL_law_440 rfl (lv_at hl 3 rfl) ?_
          refine lv_iload_n hx hb dL_law_441 rfl (lv_at hl 0 rfl) ?_
          refine lv_iconst (v := 1) hx hb dL_law_442 (by decide) ?_
          refine lv_iadd hx hb dL_law_443 ?_
          refine lv_topi (fun x443 ex443 => ?_)
          refine va_sld hx hb hXs hbl hbA hS (by have hh := i_add ex443 (by omega) (by omega); exact in_of (by omega) (by omega)) dL_law_444 ?_
          refine lv_topi (fun x444 ex444 => ?_)
          refine lv_aload_n hx hb dL_law_445 rfl (lv_at hl 3 rfl) ?_
          refine lv_iload_n hx hb dL_law_446 rfl (lv_at hl 0 rfl) ?_
          refine lv_iconst (v := 2) hx hb dL_law_447 (by decide) ?_
          refine lv_iadd hx hb dL_law_448 ?_
          refine lv_topi (fun x448 ex448 => ?_)
          refine va_sld hx hb hXs hbl hbA hS (by have hh := i_add ex448 (by omega) (by omega); exact in_of (by omega) (by omega)) dL_law_449 ?_
          refine lv_topi (fun x449 ex449 => ?_)
          refine k_I (As := [.int x444, .int x449]) (rest := []) ⟨hx, hb, hml, hown, hts⟩ (t_X10_told l dC dI base cy x444 x449 v21 (fun _ z => IA ((C : Int) + 1) n z ∧ ∀ a, a < 816 → z a = v21 a) (s_X10_told I1 (fun _ => ⟨I1.still hC, fun _ _ => rfl⟩))) (cwV 2 hts (gV ml_L_62 mi_X10_told mx_X10_told mn_X10 mo_X10_told) rfl rfl rfl (by decide +kernel) ⟨by decide, by decide⟩) hK hP hS i10 (by decide) rfl rfl hl.1 rfl (Nat.le_of_ble_eq_true rfl) dL_law_450 ⟨by decide, by decide⟩ (fun x450 v22 H locs hv22 hP hS => ?_)
          have A2 := hv22.1
          have A3 := hv22.2
          refine lv_pop hx hb dL_law_453 rfl ?_
          refine lv_goto (tgt := 516) hx hb dL_law_454 (by decide) ?_
          exact tail _ _ _ _ _ (J_far A1 A3) A2 hP hS (lv_sub hl [0, 1, 2, 3] rfl)
        by_cases s32_11 : x31 = 11
        · refine lv_tableIn (tgt := 457) hx hb dL_law_32 (by rw [s32_11]; decide) (by rw [s32_11]; decide) (by rw [s32_11]; rfl) (by decide) ?_
          refine lv_aload_n hx hb dL_law_457 rfl (lv_at hl 2 rfl) ?_
          refine k_I (As := []) (rest := []) ⟨hx, hb, hml, hown, hts⟩ (t_X9_sent l dC dI base cy  v (fun _ z => Jc n v z) (s_X9_sent J  (fun _ => J))) (cwV 0 hts (gV ml_L_63 mi_X9_sent mx_X9_sent mn_X9 mo_X9_sent) rfl rfl rfl (by decide +kernel) ⟨by decide, by decide⟩) hK hP hS i9 (by decide) rfl rfl hl.1 rfl (Nat.le_of_ble_eq_true rfl) dL_law_458 ⟨by decide, by decide⟩ (fun x458 v23 H locs hv23 hP hS => ?_)
          have A1 := hv23
          have I1 := I.far A1.1
          refine lv_pop hx hb dL_law_461 rfl ?_
          refine lv_aload_n hx hb dL_law_462 rfl (lv_at hl 1 rfl) ?_
          refine k_I (As := []) (rest := []) ⟨hx, hb, hml, hown, hts⟩ (t_X10_sent l dC dI base cy  v23 (fun _ z => IA ((C : Int) + 1) n z ∧ ∀ a, a < 816 → z a = v23 a) (s_X10_sent (fun _ => ⟨I1.still hC, fun _ _ => rfl⟩))) (cwV 0 hts (gV ml_L_67 mi_X10_sent mx_X10_sent mn_X10 mo_X10_sent) rfl rfl rfl (by decide +kernel) ⟨by decide, by decide⟩) hK hP hS i10 (by decide) rfl rfl hl.1 rfl (Nat.le_of_ble_eq_true rfl) dL_law_463 ⟨by decide, by decide⟩ (fun x463 v24 H locs hv24 hP hS => ?_)
          have A2 := hv24.1
          have A3 := hv24.2
          refine lv_pop hx hb dL_law_466 rfl ?_
          refine lv_goto (tgt := 516) hx hb dL_law_467 (by decide) ?_
          exact tail _ _ _ _ _ (J_far A1 A3) A2 hP hS (lv_sub hl [0, 1, 2, 3] rfl)
        by_cases s32_12 : x31 = 12
        · refine lv_tableIn (tgt := 470) hx hb dL_law_32 (by rw [s32_12]; decide) (by rw [s32_12]; decide) (by rw [s32_12]; rfl) (by decide) ?_
          refine lv_aload_n hx hb dL_law_470 rfl (lv_at hl 2 rfl) ?_
          refine lv_aload_n hx hb dL_law_471 rfl (lv_at hl 3 rfl) ?_
          refine lv_iload_n hx hb dL_law_472 rfl (lv_at hl 0 rfl) ?_
          refine lv_iconst (v := 1) hx hb dL_law_473 (by decide) ?_
          refine lv_iadd hx hb dL_law_474 ?_
          refine lv_topi (fun x474 ex474 => ?_)
          refine va_sld hx hb hXs hbl hbA hS (by have hh := i_add ex474 (by omega) (by omega); exact in_of (by omega) (by omega)) dL_law_475 ?_
          refine lv_topi (fun x475 ex475 => ?_)
          refine lv_aload_n hx hb dL_law_476 rfl (lv_at hl 3 rfl) ?_
          refine lv_iload_n hx hb dL_law_477 rfl (lv_at hl 0 rfl) ?_
          refine lv_iconst (v := 2) hx hb dL_law_478 (by decide) ?_
          refine lv_iadd hx hb dL_law_479 ?_
          refine lv_topi (fun x479 ex479 => ?_)
          refine va_sld hx hb hXs hbl hbA hS (by have hh := i_add ex479 (by omega) (by omega); exact in_of (by omega) (by omega)) dL_law_480 ?_
          refine lv_topi (fun x480 ex480 => ?_)
          refine k_I (As := [.int x475, .int x480]) (rest := []) ⟨hx, hb, hml, hown, hts⟩ (t_X9_byteOf l dC dI base cy x475 x480 v (fun _ z => Jc n v z) (s_X9_byteOf J x475 x480 (fun _ => J))) (cwV 2 hts (gV ml_L_68 mi_X9_byteOf mx_X9_byteOf mn_X9 mo_X9_byteOf) rfl rfl rfl (by decide +kernel) ⟨by decide, by decide⟩) hK hP hS i9 (by decide) rfl rfl hl.1 rfl (Nat.le_of_ble_eq_true rfl) dL_law_481 ⟨by decide, by decide⟩ (fun x481 v25 H locs hv25 hP hS => ?_)
          have A1 := hv25
          have I1 := I.far A1.1
          refine lv_pop hx hb dL_law_484 rfl ?_
          refine lv_aload_n hx hb dL_law_485 rfl (lv_at hl 1 rfl) ?_
          refine lv_aload_n hx hb dL_law_486 rfl (lv_at hl 3 rfl) ?_
          refine lv_iload_n hx hb dL_law_487 rfl (lv_at hl 0 rfl) ?_
          refine lv_iconst (v := 1) hx hb dL_law_488 (by decide) ?_
          refine lv_iadd hx hb dL_law_489 ?_
          refine lv_topi (fun x489 ex489 => ?_)
          refine va_sld hx hb hXs hbl hbA hS (by have hh := i_add ex489 (by omega) (by omega); exact in_of (by omega) (by omega)) dL_law_490 ?_
          refine lv_topi (fun x490 ex490 => ?_)
          refine lv_aload_n hx hb dL_law_491 rfl (lv_at hl 3 rfl) ?_
          refine lv_iload_n hx hb dL_law_492 rfl (lv_at hl 0 rfl) ?_
          refine lv_iconst (v := 2) hx hb dL_law_493 (by decide) ?_
          refine lv_iadd hx hb dL_law_494 ?_
          refine lv_topi (fun x494 ex494 => ?_)
          refine va_sld hx hb hXs hbl hbA hS (by have hh := i_add ex494 (by omega) (by omega); exact in_of (by omega) (by omega)) dL_law_495 ?_
          refine lv_topi (fun x495 ex495 => ?_)
          refine k_I (As := [.int x490, .int x495]) (rest := []) ⟨hx, hb, hml, hown, hts⟩ (t_X10_byteOf l dC dI base cy x490 x495 v25 (fun _ z => IA ((C : Int) + 1) n z ∧ ∀ a, a < 816 → z a = v25 a) (s_X10_byteOf I1 (fun _ => ⟨I1.still hC, fun _ _ => rfl⟩))) (cwV 2 hts (gV ml_L_71 mi_X10_byteOf mx_X10_byteOf mn_X10 mo_X10_byteOf) rfl rfl rfl (by decide +kernel) ⟨by decide, by decide⟩) hK hP hS i10 (by decide) rfl rfl hl.1 rfl (Nat.le_of_ble_eq_true rfl) dL_law_496 ⟨by decide, by decide⟩ (fun x496 v26 H locs hv26 hP hS => ?_)
          have A2 := hv26.1
          have A3 := hv26.2
          refine lv_pop hx hb dL_law_499 rfl ?_
          refine lv_goto (tgt := 516) hx hb dL_law_500 (by decide) ?_
          exact tail _ _ _ _ _ (J_far A1 A3) A2 hP hS (lv_sub hl [0, 1, 2, 3] rfl)
        by_cases s32_13 : x31 = 13
        · refine lv_tableIn (tgt := 503) hx hb dL_law_32 (by rw [s32_13]; decide) (by rw [s32_13]; decide) (by rw [s32_13]; rfl) (by decide) ?_
          refine lv_aload_n hx hb dL_law_503 rfl (lv_at hl 2 rfl) ?_
          refine k_I (As := []) (rest := []) ⟨hx, hb, hml, hown, hts⟩ (t_X9_clock l dC dI base cy v (fun y z => Jc n v z ∧ y = n) (s_X9_clock J (fun _ ey => ⟨J, ey⟩))) (cwV 0 hts (gV ml_L_72 mi_X9_clock mx_X9_clock mn_X9 mo_X9_clock) rfl rfl rfl (by decide +kernel) ⟨by decide, by decide⟩) hK hP hS i9 (by decide) rfl rfl hl.1 rfl (Nat.le_of_ble_eq_true rfl) dL_law_504 ⟨by decide, by decide⟩ (fun x504 v27 H locs hv27 hP hS => ?_)
          have A1 := hv27.1
          have A4 := hv27.2
          have I1 := I.far A1.1
          refine lv_pop hx hb dL_law_507 rfl ?_
          refine lv_aload_n hx hb dL_law_508 rfl (lv_at hl 1 rfl) ?_
          refine k_I (As := []) (rest := []) ⟨hx, hb, hml, hown, hts⟩ (t_X10_clock l dC dI base cy v27 (fun y z => (IA ((C : Int) + 1) n z ∧ ∀ a, a < 816 → z a = v27 a) ∧ y = n) (s_X10_clock I1 ⟨⟨I1.still hC, fun _ _ => rfl⟩, rfl⟩)) (cwV 0 hts (gV ml_L_75 mi_X10_clock mx_X10_clock mn_X10 mo_X10_clock) rfl rfl rfl (by decide +kernel) ⟨by decide, by decide⟩) hK hP hS i10 (by decide) rfl rfl hl.1 rfl (Nat.le_of_ble_eq_true rfl) dL_law_509 ⟨by decide, by decide⟩ (fun x509 v28 H locs hv28 hP hS => ?_)
          have A2 := hv28.1.1
          have A3 := hv28.1.2
          have A5 := hv28.2
          refine lv_pop hx hb dL_law_512 rfl ?_
          refine lv_goto (tgt := 516) hx hb dL_law_513 (by decide) ?_
          exact tail _ _ _ _ _ (J_far A1 A3) A2 hP hS (lv_sub hl [0, 1, 2, 3] rfl)
        refine lv_tableOut (tgt := 516) hx hb dL_law_32 (by have := lv_neT s32_0 (a := 0) (by decide); have := lv_neT s32_1 (a := 1) (by decide); have := lv_neT s32_2 (a := 2) (by decide); have := lv_neT s32_3 (a := 3) (by decide); have := lv_neT s32_4 (a := 4) (by decide); have := lv_neT s32_5 (a := 5) (by decide); have := lv_neT s32_6 (a := 6) (by decide); have := lv_neT s32_7 (a := 7) (by decide); have := lv_neT s32_8 (a := 8) (by decide); have := lv_neT s32_9 (a := 9) (by decide); have := lv_neT s32_10 (a := 10) (by decide); have := lv_neT s32_11 (a := 11) (by decide); have := lv_neT s32_12 (a := 12) (by decide); have := lv_neT s32_13 (a := 13) (by decide); omega) (by decide) ?_
        exact tail n v _ _ _ J (I.still hC) hP hS (lv_sub hl [0, 1, 2, 3] rfl)
  have hl := lv_entry ([.ref b]) (n := 4) (Nat.le_of_ble_eq_true rfl)
  rw [lg_entry_eq]
  generalize (lg_sl ([.ref b]) ++ List.replicate (4 - (lg_sl ([.ref b])).length) Slot.unset).toArray = ls at hl ⊢
  have hl : lv_has ls 4 [(0, .ref b)] := hl
  have K0 := hZ
  refine w_new (n := 0) (C := RX9) (T := TX9) (N := 4) (ci := 9) hx hb hts in9 tyX9 tyX9_ok hown (hts _ mc_L_7) (hts _ ms_X9) (hts _ mn_X9) hK hP hz hS hZ rfl (i9) (by decide) dvX9 (by decide) (by decide) dL_law_0 (fun H hP hz hS hZ => ?_)
  have hP : va_P (dC, dI) vwCl (Wd base cy r v (1)) H := hP
  have hz : H.size = base + (1) := hz
  have hZ : Zr (1) v r := hZ
  refine lv_dup hx hb dL_law_3 rfl ?_
  refine k_C (As := []) (rest := [.ref (base + 0)]) (n' := 816) ⟨hx, hb, hml, hown, hts⟩ (ct9 l dC dI base cy v r hZ (K0 _ (by omega)).1 (K0 _ (by omega)).2) (cwI 0 hts (gI mo_X9_init) rfl rfl rfl (hts _ mn_X9) (hts _ ml_L_9) (hts _ mi_X9_init) rfl (by decide +kernel) ⟨by decide, by decide⟩) hK hX hP hz hS rfl hl.1 rfl (Nat.le_of_ble_eq_true rfl) dL_law_4 ⟨(by decide), (by decide)⟩ (fun v29 r30 H locs hB hP hz hS => ?_)
  have hZ := hB.2.2
  have B0 := hB
  refine lv_astore_n (lv' := [(1, .ref (base + 0)), (0, .ref b)]) hx hb dL_law_7 rfl hl (by decide) rfl (fun ls hl => ?_)
  have K1 := hZ
  refine w_new (n := 816) (C := RX10) (T := TX10) (N := 64) (ci := 10) hx hb hts in10 tyX10 tyX10_ok hown (hts _ mc_L_10) (hts _ ms_X10) (hts _ mn_X10) hK hP hz hS hZ rfl (i10) (by decide) dvX10 (by decide) (by decide) dL_law_8 (fun H hP hz hS hZ => ?_)
  have hP : va_P (dC, dI) vwCl (Wd base cy r30 v29 (817)) H := hP
  have hz : H.size = base + (817) := hz
  have hZ : Zr (817) v29 r30 := hZ
  refine lv_dup hx hb dL_law_11 rfl ?_
  refine k_C (As := []) (rest := [.ref (base + 816)]) (n' := 874) ⟨hx, hb, hml, hown, hts⟩ (ct10 l dC dI base cy v29 r30 hZ (K1 _ (by omega)).1 (K1 _ (by omega)).2) (cwI 0 hts (gI mo_X10_init) rfl rfl rfl (hts _ mn_X10) (hts _ ml_L_12) (hts _ mi_X10_init) rfl (by decide +kernel) ⟨by decide, by decide⟩) hK hX hP hz hS rfl hl.1 rfl (Nat.le_of_ble_eq_true rfl) dL_law_12 ⟨(by decide), (by decide)⟩ (fun v31 r32 H locs hB hP hz hS => ?_)
  have hZ := hB.2.2
  have B1 := hB
  refine lv_astore_n (lv' := [(2, .ref (base + 816)), (1, .ref (base + 0)), (0, .ref b)]) hx hb dL_law_15 rfl hl (by decide) rfl (fun ls hl => ?_)
  refine lv_iconst (v := 0) hx hb dL_law_16 (by decide) ?_
  refine lv_istore_n (lv' := [(3, .int 0), (2, .ref (base + 816)), (1, .ref (base + 0)), (0, .ref b)]) hx hb dL_law_17 rfl hl (by decide) rfl (fun ls hl => ?_)
  refine W.widen (k := 874) (n := 143829) (by decide) (by decide) ?_
  have hrf : ∀ a, a < 874 → r32 a = rf a := fun a ha => by
    by_cases h9 : a < 816
    · rw [(B1.1 a h9).2]; exact (B0.2.1 a (by omega) h9).2
    · exact (B1.2.1 a (by omega) ha).2
  have hf : Fc v31 := fun a ha => by rw [(B1.1 a ha).1]; exact (B0.2.1 a (by omega) ha).1
  have hm : Fm v31 := fun a h1 h2 => (B1.2.1 a h1 h2).1
  have hP : va_P (dC, dI) vwCl (Wd base cy rf v31 874) H := by
    rw [← Wd_ext (r := r32) (fun o ho => ce_off (hrf o ho) rfl)]
    exact hP
  exact loop (L + 5) 0 0 0 v31 H _ _ (by decide) (by omega) (J_first hf) (IA_first hm) hP hS (lv_sub hl [0, 1, 2, 3] rfl)
