/-! CONSTRUCTORS: the cells come one behind another; n of them stand, and the heap ends there. -/
def z0 : Nat → Int32 := fun _ => 0
def n0 : Nat → Option Nat := fun _ => none
def Zr (n : Nat) (v : VV) (r : RR) : Prop := ∀ a, n ≤ a → v a = z0 ∧ r a = n0
theorem Zr.s {n : Nat} {v : VV} {r : RR} (h : Zr n v r) : Zr (n + 1) v r := fun a ha => h a (by omega)
theorem Zr.v {n o k : Nat} {v v1 : VV} {r : RR} {x : Int32} (h : Zr n v r) (hv : v1 = up2 v o k x) (ho : o < n) : Zr n v1 r := fun a ha => ⟨by rw [hv, up2_of _ _ _ _ (by omega)]; exact (h a ha).1, (h a ha).2⟩
theorem Zr.r {n o k : Nat} {v : VV} {r r1 : RR} {t : Option Nat} (h : Zr n v r) (hr : r1 = up2 r o k t) (ho : o < n) : Zr n v r1 := fun a ha => ⟨(h a ha).1, by rw [hr, up2_of _ _ _ _ (by omega)]; exact (h a ha).2⟩
abbrev hst : String := "TransportFour"
/-- what the constructors take along beside the words -/
def Kx (U : State) : Prop := (va_AO RX5 U ∧ va_AO RX0 U ∧ va_AO RX4 U ∧ (Cond.arrayOver (.array .int)).before #[] U = true) ∧ va_Nw (.methodLinkNest RX0 20 yX1_init hst) U ∧ va_Nw (.methodLinkNest RX0 27 yX7_init hst) U ∧ va_Nw (.methodLinkNest RX0 34 yX6_init hst) U ∧ va_Nw (.methodLinkNest RX0 41 yX8_init hst) U ∧ va_Nw (.methodLinkNest RX2 17 yX5_init hst) U ∧ va_Nw (.methodLinkNest RX3 17 yX4_init hst) U ∧ va_Nw (.methodLinkNest RX4 17 yX8_init hst) U ∧ va_Nw (.methodLinkNest RX7 17 yX8_init hst) U
theorem Kx.warm {s U : State} (hW : s.WarmedH U.vm) (h : Kx s) : Kx U := by
  obtain ⟨⟨a1, a2, a3, a4⟩, b1, b2, b3, b4, b5, b6, b7, b8⟩ := h
  exact ⟨⟨a1.moved hW.alike, a2.moved hW.alike, a3.moved hW.alike, over_moved hW.alike a4⟩, b1.warmM hW, b2.warmM hW, b3.warmM hW, b4.warmM hW, b5.warmM hW, b6.warmM hW, b7.warmM hW, b8.warmM hW⟩
theorem Kx.same {s U : State} (hv : s.vm = U.vm) (h : Kx s) : Kx U := by
  obtain ⟨⟨a1, a2, a3, a4⟩, b1, b2, b3, b4, b5, b6, b7, b8⟩ := h
  have hA : s.vm.Alike U.vm := by rw [hv]; exact Vm.Alike.refl _
  exact ⟨⟨a1.moved hA, a2.moved hA, a3.moved hA, over_moved hA a4⟩, b1.same rfl hv, b2.same rfl hv, b3.same rfl hv, b4.same rfl hv, b5.same rfl hv, b6.same rfl hv, b7.same rfl hv, b8.same rfl hv⟩
def Hc (dC : Nat → ClassId) (dI : Nat → Nat → Nat) (base : Nat) (cy : Nat → ClassId) (n : Nat) (v : VV) (r : RR) (U : State) : Prop := U.heap.size = base + n ∧ va_P (dC, dI) vwCl (Wd base cy r v n) U.heap ∧ va_K (dC, dI) vwCl (tyL cy) U ∧ Kx U
theorem Hc_blind {dC : Nat → ClassId} {dI : Nat → Nat → Nat} {base n : Nat} {cy : Nat → ClassId} {v : VV} {r : RR} {av : List Value} : FrameBlind (va_Pc av (Hc dC dI base cy n v r)) := fun a U g mk q => ⟨q.1, q.2.1, q.2.2.1, va_K.moved (u := U) (U := U.calling g mk a) (Vm.Alike.refl U.vm) q.2.2.2.1, Kx.same (s := U) (U := U.calling g mk a) rfl q.2.2.2.2⟩
/-- a constructor: n cells before, n' behind -/
abbrev CC (l : Launch) (y : MethodName) (ws : List Cond) (rm : Room) (dC : Nat → ClassId) (dI : Nat → Nat → Nat) (base : Nat) (cy : Nat → ClassId) (av : List Value) (n : Nat) (v : VV) (r : RR) (n' mc ms : Nat) (post : VV → RR → Prop) : Prop :=
  Met l y ws rm (va_Pc av (Hc dC dI base cy n v r)) (va_Qv (fun u : VV × RR => post u.1 u.2) (fun u t => Hc dC dI base cy n' u.1 u.2 t) (fun q => base ≤ q)) mc ms (fun q => base ≤ q)
/-- what a constructor at o leaves: its own cells o .. n' as new ones are, all below as it was -/
def Bt (o n' : Nat) (v : VV) (r : RR) (v' : VV) (r' : RR) : Prop := (∀ a, a < o → v' a = v a ∧ r' a = r a) ∧ (∀ a, o ≤ a → a < n' → v' a = iv a ∧ r' a = rf a) ∧ Zr n' v' r'
section RC
variable {p : Program} {l : Launch} {e : Env} {R : Room} {s : State} {m : MethodId} {args : Array Value} {below : List Frame} {meth : Method} {c : Code} {H : Heap} {locs : List Loc} {cells slots : Nat} {Q : State → Prop}
variable {cc : ByteArray} {pc : Nat} {ls : Array Slot} {rest st0 As : List Value} {dC : Nat → ClassId} {dI : Nat → Nat → Nat} {base : Nat} {cy : Nat → ClassId} {r : RR} {v : VV} {n : Nat} {H0 : Heap}
theorem w_new (hx : p.tables.exec = Jvm.exec) (hb : c.code = cc) {own C : String} {T : u_T} {N ci index : Nat} {Ts : List Cond} (hts : ∀ w ∈ Ts, w.before args s = true) (hin : ∀ w ∈ u_ws C T N, w ∈ Ts) (ty : Nat → FieldType) (hty : ∀ k, k < N → parseFieldDescriptor (T k).2.2.1 = some (ty k)) (hown : s.vm.findClass own = some m.cls) (hcl : (Cond.classLink own index C).before args s = true) (hinst : (Cond.instantiable C N).before args s = true) (hini : (Cond.initialized C).before args s = true) (hK : va_K (dC, dI) vwCl (tyL cy) s) (hP : va_P (dC, dI) vwCl (Wd base cy r v n) H) (hz : H.size = base + n) (hS : va_S (fun q => base ≤ q) H0 H locs) (hZ : Zr n v r) (hc : vwCl[ci]? = some (C, T, N)) (hO : isO ci n) (hN : ci < 11 ∧ nf ci = N) (hdv : ∀ j, j < N → defaultValue (ty j) = (if isR ci j then Value.null else .int 0)) (hcells : cells + 1 ≤ R.cells) (hslots : slots + N ≤ R.slots) (hdg : decode cc pc = .ok (.new index, 3))
    (kk : ∀ H1 : Heap, va_P (dC, dI) vwCl (Wd base cy r v (n + 1)) H1 → H1.size = base + (n + 1) → va_S (fun q => base ≤ q) H0 H1 locs → Zr (n + 1) v r → W p l e R s m args below meth c H1 locs (cells + 1) (slots + N) Q (F0 m (pc + 3) ls (.ref (base + n) :: rest))) : W p l e R s m args below meth c H locs cells slots Q (F0 m pc ls rest) := by
  have hKn := hK.1 ci _ hc
  refine W.newcK hx hb hown hcl hinst hini rfl hdg hcells hslots hKn.2.1 hz fun H1 kC hkC e1 z1 o1 => ?_
  refine kk H1 ?_ (by rw [z1]; omega) ⟨Nat.le_trans hS.1 (by omega), fun x h1 h2 => (o1 x (by have := hS.1; omega)).trans (hS.2.1 x h1 h2), hS.2.2⟩ hZ.s
  rw [← Wd_push]
  have hk : ∀ (k : Nat) (x : Nat × va_E), (Wd base cy r v n)[k]? = some x → H1[x.1]? = H[x.1]? := fun k x hx => o1 x.1 (by rw [← hz]; exact (hP k x hx).lt)
  refine (hP.kept hk).app (fun k x hx => ?_)
  have hz : k < 1 := (List.getElem?_eq_some_iff.mp hx).1
  rw [show k = 0 by omega] at hx
  cases hx
  rw [ce_obj hO.2 hN.1]
  refine ⟨_, hc, (u_born ty hts hin hKn hkC e1 hty).to (fun j hj => ?_)⟩
  have hj2 : j < sz n := by rw [hO.sz hN.1, hN.2]; exact hj
  have e2 : vp_V ((List.range (sz n)).map (pv base r v n)) j = pv base r v n j := by
    rw [vp_V, List.getD_eq_getElem?_getD, pv_at hj2]
    rfl
  show defaultValue (ty j) = _
  rw [e2, hdv j hj]
  simp only [pv, hO.2, (hZ n (Nat.le_refl _)).1, (hZ n (Nat.le_refl _)).2, n0, z0, va_rf, Option.map_none]
theorem w_newa (hx : p.tables.exec = Jvm.exec) (hb : c.code = cc) {atype : ArrayType} {ki q0 : Nat} {ty : FieldType} (hty : newarray.typeOf atype = ty) (hki : 11 ≤ ki ∧ ki < 13) (hq : (tyL cy)[q0]? = some (cy ki, ty)) (hra : ∀ U cA, va_RA U cA ty → U.vm.findClass ("[" ++ ty.toString) = some cA) (hdv : defaultValue ty = .int 0) (harr : (Cond.arrayClass ty).before args s = true) (hK : va_K (dC, dI) vwCl (tyL cy) s) (hP : va_P (dC, dI) vwCl (Wd base cy r v n) H) (hz : H.size = base + n) (hS : va_S (fun q => base ≤ q) H0 H locs) (hZ : Zr n v r) {k : Int32} {N : Nat} (hO : isO ki n) (hsz : sz n = N) (hn : ¬ k < 0) (hN : k.toNatClampNeg = N) (hbytes : N * componentBytes ty ≤ 536870912) (hcells : cells + 1 ≤ R.cells) (hslots : slots + N ≤ R.slots) (hdg : decode cc pc = .ok (.newarray atype, 2))
    (kk : ∀ H1 : Heap, va_P (dC, dI) vwCl (Wd base cy r v (n + 1)) H1 → H1.size = base + (n + 1) → va_S (fun q => base ≤ q) H0 H1 locs → Zr (n + 1) v r → W p l e R s m args below meth c H1 locs (cells + 1) (slots + N) Q (F0 m (pc + 2) ls (.ref (base + n) :: rest))) : W p l e R s m args below meth c H locs cells slots Q (F0 m pc ls (.int k :: rest)) := by
  subst hty
  refine va_newaK hx hb harr rfl hdg rfl hn hN hbytes hcells hslots hz fun H1 cA e1 z1 o1 hAr hNm => ?_
  have ecA : cA = cy ki := Option.some.inj (hNm.symm.trans (hra _ _ (hK.2 q0 _ hq).2))
  subst ecA
  refine kk H1 ?_ (by rw [z1]; omega) ⟨Nat.le_trans hS.1 (by omega), fun x h1 h2 => (o1 x (by have := hS.1; omega)).trans (hS.2.1 x h1 h2), hS.2.2⟩ hZ.s
  rw [← Wd_push]
  have hk : ∀ (k : Nat) (x : Nat × va_E), (Wd base cy r v n)[k]? = some x → H1[x.1]? = H[x.1]? := fun k x hx => o1 x.1 (by rw [← hz]; exact (hP k x hx).lt)
  refine (hP.kept hk).app (fun k x hx => ?_)
  have hz : k < 1 := (List.getElem?_eq_some_iff.mp hx).1
  rw [show k = 0 by omega] at hx
  cases hx
  rw [ce_int hO.2 hki.1 hki.2, hsz]
  show H1[base + n]? = some (vp_cell _ _)
  rw [vp_cell_i, e1, hdv]
  simp only [(hZ n (Nat.le_refl _)).1, z0]
theorem w_anew (hx : p.tables.exec = Jvm.exec) (hb : c.code = cc) {own C : String} {index ki q0 : Nat} (hown : s.vm.findClass own = some m.cls) (hclink : (Cond.classLink own index C).before args s = true) (hover : va_AO C s) (hki : 13 ≤ ki) (hq : (tyL cy)[q0]? = some (cy ki, .object C)) (hK : va_K (dC, dI) vwCl (tyL cy) s) (hP : va_P (dC, dI) vwCl (Wd base cy r v n) H) (hz : H.size = base + n) (hS : va_S (fun q => base ≤ q) H0 H locs) (hZ : Zr n v r) {k : Int32} {N : Nat} (hO : isO ki n) (hsz : sz n = N) (hn : ¬ k < 0) (hN : k.toNatClampNeg = N) (hbytes : N * 4 ≤ 536870912) (hcells : cells + 1 ≤ R.cells) (hslots : slots + N ≤ R.slots) (hdg : decode cc pc = .ok (.anewarray index, 3))
    (kk : ∀ H1 : Heap, va_P (dC, dI) vwCl (Wd base cy r v (n + 1)) H1 → H1.size = base + (n + 1) → va_S (fun q => base ≤ q) H0 H1 locs → Zr (n + 1) v r → W p l e R s m args below meth c H1 locs (cells + 1) (slots + N) Q (F0 m (pc + 3) ls (.ref (base + n) :: rest))) : W p l e R s m args below meth c H locs cells slots Q (F0 m pc ls (.int k :: rest)) := by
  subst hN
  refine W.anew hx hb hown hclink (va_AO.use hover) rfl hdg rfl hn hbytes hcells hslots fun cA kA comp f1 f2 f3 f4 => ?_
  have ecA : cA = cy ki := by
    obtain ⟨_, _, _, _, _, h4⟩ := (hK.2 q0 _ hq).2
    exact Option.some.inj (f1.symm.trans h4)
  subst ecA
  generalize hH1 : H.push ({ cls := cy ki, slots := Array.replicate k.toNatClampNeg .null, vm := .none } : Cell) = H1
  have z1 : H1.size = H.size + 1 := by rw [← hH1, Array.size_push]
  have e1 : H1[H.size]? = some (arrV (cy ki) k.toNatClampNeg (fun _ => .null)) := by rw [← hH1, Array.getElem?_push_size, ← arrV_new]
  have o1 : ∀ q : Nat, q < H.size → H1[q]? = H[q]? := fun q hq => by rw [← hH1, Array.getElem?_push, if_neg (Nat.ne_of_lt hq)]
  have eg : W p l e R s m args below meth c H1 locs (cells + 1) (slots + k.toNatClampNeg) Q (F0 m (pc + 3) ls (.ref (base + n) :: rest)) := by
    refine kk H1 ?_ (by rw [z1]; omega) ⟨Nat.le_trans hS.1 (by omega), fun x h1 h2 => (o1 x (by have := hS.1; omega)).trans (hS.2.1 x h1 h2), hS.2.2⟩ hZ.s
    rw [← Wd_push]
    have hk : ∀ (k : Nat) (x : Nat × va_E), (Wd base cy r v n)[k]? = some x → H1[x.1]? = H[x.1]? := fun k x hx => o1 x.1 ((hP k x hx).lt)
    refine (hP.kept hk).app (fun k x hx => ?_)
    have hz1 : k < 1 := (List.getElem?_eq_some_iff.mp hx).1
    rw [show k = 0 by omega] at hx
    cases hx
    rw [ce_ref hO.2 hki, hsz]
    show H1[base + n]? = some (vp_cell _ _)
    rw [vp_cell_q, ← hz, e1]
    simp only [(hZ n (Nat.le_refl _)).2, n0, va_rf, Option.map_none]
  rw [← hz] at eg
  exact eg
/-- a reference stored in a row -/
theorem w_as (hx : p.tables.exec = Jvm.exec) (hb : c.code = cc) (hK : va_K (dC, dI) vwCl (tyL cy) s) (hP : va_P (dC, dI) vwCl (Wd base cy r v n) H) (hS : va_S (fun q => base ≤ q) H0 H locs) {o t ki q0 ci N Nf : Nat} {C : String} {T : u_T} (ho : o < n) (ht : t < n) (hO : isO ki o) (hT : isO ci t) (hki : 13 ≤ ki) (hci : ci < 11) (hq : (tyL cy)[q0]? = some (cy ki, .object C)) (hc : vwCl[ci]? = some (C, T, Nf)) (hN : sz o = N) {i : Int32} (hin : vp_in i N) (hdg : decode cc pc = .ok (.aastore, 1))
    (kk : ∀ (r1 : RR) (H1 : Heap) (locs1 : List Loc), r1 = up2 r o i.toNatClampNeg (some t) → va_P (dC, dI) vwCl (Wd base cy r1 v n) H1 → H1.size = H.size → va_S (fun q => base ≤ q) H0 H1 locs1 → W p l e R s m args below meth c H1 locs1 cells slots Q (F0 m (pc + 1) ls rest)) : W p l e R s m args below meth c H locs cells slots Q (F0 m pc ls (.ref (base + t) :: .int i :: .ref (base + o) :: rest)) := by
  have he := Wd_at (base := base) (cy := cy) (r := r) (v := v) ho
  rw [ce_ref hO.2 hki, hN] at he
  have hv := Wd_at (base := base) (cy := cy) (r := r) (v := v) ht
  rw [ce_obj hT.2 hci] at hv
  have hlt : i.toNatClampNeg < N := Nat.not_le.mp fun q => hin (Or.inr q)
  have h0 : ¬ i < 0 := fun q => hin (Or.inl q)
  obtain ⟨r', hr', cellV, g1, g2, g3, -⟩ := hP t _ hv
  have hcls := (hK.1 ci _ hc).2
  obtain ⟨kA, comp, k1, k2, k3, -⟩ := (hK.2 q0 _ hq).2
  have hcomp : comp = (dC, dI).1 ci := Option.some.inj (k3.symm.trans hcls.1)
  subst hcomp
  obtain ⟨kC, hkC, -⟩ := hcls.2
  refine W.aast hx hb (hP o _ he) (fun q h => by cases h) (fun h => by cases h) k1 k2 rfl hkC ⟨h0, by show _ < (arrV _ _ _).slots.size; rw [arrV_size]; exact hlt⟩ g1 (fun q h => by rw [g3] at h; cases h) (by rw [g2]; exact hkC) (by rw [g2]; exact va_assign hcls) rfl rfl hdg fun H1 e1 z oq => ?_
  refine kk _ H1 _ rfl ?_ z (hS.put z oq (Nat.le_add_right _ _))
  rw [← Wd_astR hO.2 hki, hN]
  refine hP.set Wd_D he ?_ oq
  show H1[base + o]? = some (vp_cell _ _)
  rw [e1, vp_cell_q, vp_cell_q, arrV_store]
  congr 2
  funext q
  by_cases hq : q = i.toNatClampNeg
  · subst hq
    simp [updV, va_up, va_rf]
  · simp [updV, va_up, hq]
theorem Hc_pre (hz : H.size = base + n) (hP : va_P (dC, dI) vwCl (Wd base cy r v n) H) (hK : va_K (dC, dI) vwCl (tyL cy) s) (hX : Kx s) {av : List Value} : ∀ U : State, U.heap = H → s.WarmedH U.vm → va_Pc av (Hc dC dI base cy n v r) av.toArray U := fun U hU hW => ⟨rfl, by rw [hU]; exact hz, by rw [hU]; exact hP, va_K.moved hW.alike hK, hX.warm hW⟩
variable {y : MethodName} {ws : List Cond} {rm : Room} {Ts : List Cond} {own host : String} {bytes : ByteArray} {index maxL nL na n' mc ms b : Nat}
theorem k_C (F : CallFix p m c cc nL s args Ts own) {post : VV → RR → Prop} (hM : CC l y ws rm dC dI base cy (.ref b :: As) n v r n' mc ms post) (cw : CallB R s args own index y bytes maxL none ws rm mc ms na ∧ y.name = "<init>" ∧ (Cond.instanceMethod y).before args s = true) (hK : va_K (dC, dI) vwCl (tyL cy) s) (hX : Kx s) (hP : va_P (dC, dI) vwCl (Wd base cy r v n) H) (hz : H.size = base + n) (hS : va_S (fun q => base ≤ q) H0 H locs) (hn : As.length = na) (hsz : ls.size = nL) (hst : st0 = As.reverse ++ .ref b :: rest) (hW : (rest.map fun v => v.category).sum ≤ 8) (hdg : decode cc pc = .ok (.invokespecial index, 3)) (hr : cells + mc ≤ R.cells ∧ slots + ms ≤ R.slots)
    (kk : ∀ (v1 : VV) (r1 : RR) (H1 : Heap) (locs1 : List Loc), post v1 r1 → va_P (dC, dI) vwCl (Wd base cy r1 v1 n') H1 → H1.size = base + n' → va_S (fun q => base ≤ q) H0 H1 locs1 → W p l e R s m args below meth c H1 locs1 (cells + mc) (slots + ms) Q (F0 m (pc + 3) ls rest)) : W p l e R s m args below meth c H locs cells slots Q (F0 m pc ls st0) := by
  refine va_callv (va_runI (As := As) (rest := rest) F hM cw ⟨Hc_blind, Hc_pre hz hP hK hX⟩ rfl hn hsz hst (lv_room hW) hdg hr) hS (fun _ _ h => h) (fun _ h => h) (fun u t H1 locs1 ht hvm hw hB hz1 hk1 hS1 => kk u.1 u.2 H1 locs1 hw ?_ ?_ hS1)
  · rw [← ht]; exact hB.2.1
  · rw [← ht]; exact hB.1
theorem k_CN (F : CallFix p m c cc nL s args Ts own) {post : VV → RR → Prop} (hM : CC l y ws rm dC dI base cy (.ref b :: As) n v r n' mc ms post) (cw : va_CN R s args own index y host bytes maxL none ws rm mc ms na ∧ y.name = "<init>" ∧ (Cond.instanceMethod y).before args s = true) (hK : va_K (dC, dI) vwCl (tyL cy) s) (hX : Kx s) (hP : va_P (dC, dI) vwCl (Wd base cy r v n) H) (hz : H.size = base + n) (hS : va_S (fun q => base ≤ q) H0 H locs) (hn : As.length = na) (hsz : ls.size = nL) (hst : st0 = As.reverse ++ .ref b :: rest) (hW : (rest.map fun v => v.category).sum ≤ 8) (hdg : decode cc pc = .ok (.invokespecial index, 3)) (hr : cells + mc ≤ R.cells ∧ slots + ms ≤ R.slots)
    (kk : ∀ (v1 : VV) (r1 : RR) (H1 : Heap) (locs1 : List Loc), post v1 r1 → va_P (dC, dI) vwCl (Wd base cy r1 v1 n') H1 → H1.size = base + n' → va_S (fun q => base ≤ q) H0 H1 locs1 → W p l e R s m args below meth c H1 locs1 (cells + mc) (slots + ms) Q (F0 m (pc + 3) ls rest)) : W p l e R s m args below meth c H locs cells slots Q (F0 m pc ls st0) := by
  refine va_callv (va_runIN (As := As) (rest := rest) F hM cw ⟨Hc_blind, Hc_pre hz hP hK hX⟩ rfl hn hsz hst (lv_room hW) hdg hr) hS (fun _ _ h => h) (fun _ h => h) (fun u t H1 locs1 ht hvm hw hB hz1 hk1 hS1 => kk u.1 u.2 H1 locs1 hw ?_ ?_ hS1)
  · rw [← ht]; exact hB.2.1
  · rw [← ht]; exact hB.1
end RC
theorem dvX0 : ∀ j, j < 15 → defaultValue (tyX0 j) = (if isR 0 j then Value.null else .int 0) := by decide +kernel
theorem dvX1 : ∀ j, j < 15 → defaultValue (tyX1 j) = (if isR 1 j then Value.null else .int 0) := by decide +kernel
theorem dvX2 : ∀ j, j < 11 → defaultValue (tyX2 j) = (if isR 2 j then Value.null else .int 0) := by decide +kernel
theorem dvX3 : ∀ j, j < 6 → defaultValue (tyX3 j) = (if isR 3 j then Value.null else .int 0) := by decide +kernel
theorem dvX4 : ∀ j, j < 4 → defaultValue (tyX4 j) = (if isR 4 j then Value.null else .int 0) := by decide +kernel
theorem dvX5 : ∀ j, j < 7 → defaultValue (tyX5 j) = (if isR 5 j then Value.null else .int 0) := by decide +kernel
theorem dvX6 : ∀ j, j < 4 → defaultValue (tyX6 j) = (if isR 6 j then Value.null else .int 0) := by decide +kernel
theorem dvX7 : ∀ j, j < 4 → defaultValue (tyX7 j) = (if isR 7 j then Value.null else .int 0) := by decide +kernel
theorem dvX8 : ∀ j, j < 2 → defaultValue (tyX8 j) = (if isR 8 j then Value.null else .int 0) := by decide +kernel
theorem dvX9 : ∀ j, j < 4 → defaultValue (tyX9 j) = (if isR 9 j then Value.null else .int 0) := by decide +kernel
theorem dvX10 : ∀ j, j < 64 → defaultValue (tyX10 j) = (if isR 10 j then Value.null else .int 0) := by decide +kernel
theorem raI : ∀ U cA, va_RA U cA .int → U.vm.findClass ("[" ++ FieldType.int.toString) = some cA := fun _ _ h => h
theorem raZ : ∀ U cA, va_RA U cA .boolean → U.vm.findClass ("[" ++ FieldType.boolean.toString) = some cA := fun _ _ h => h
theorem rf_n {a : Nat} (h : kd a = 11 ∨ kd a = 12 ∨ kd a = 8) : rf a = n0 := by
  funext k
  rcases h with h | h | h <;> simp [rf, h, n0]
theorem iv_n {a : Nat} (h : a < 816) (hk : kd a ≠ 0) : iv a = z0 := by
  funext k
  exact iv_0 h hk k
