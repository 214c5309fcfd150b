/-! what the walk by program needs beside the rows of part 03 and 04 -/
theorem th9 : isO 9 0 := by decide
theorem th2 : isO 2 1 := by decide
theorem th10 : isO 10 816 := by decide
theorem zb_n {x : Int32} (h : x = 0 ∨ x = 1) : narrow .boolean (.int x) = .int x := by
  rcases h with rfl | rfl <;> rfl
theorem zb_f {x : Int32} (h : x = 0 ∨ x = 1) : fits .boolean (.int x) = true := by
  rcases h with rfl | rfl <;> rfl
theorem in_lt {i : Int32} {n : Nat} (h : vp_in i n) : i.toNatClampNeg < n := Nat.not_le.mp fun q => h (Or.inr q)
theorem arI {o i : Nat} (ho : isO 16 o) (h : i < 8) : rf o i = some (o + 1 + i) ∧ isO 11 (o + 1 + i) ∧ sz (o + 1 + i) = 8 := by
  have hh : ∀ o, o < 874 → kd o = 16 → ∀ i, i < 8 → isO 11 (o + 1 + i) ∧ sz (o + 1 + i) = 8 := by decide +kernel
  exact ⟨by simp [rf, ho.2, h], hh o ho.1 ho.2 i h⟩
/-- a method that answers a cell -/
abbrev CQ (l : Launch) (y : MethodName) (ws : List Cond) (rm : Room) (dC : Nat → ClassId) (dI : Nat → Nat → Nat) (base : Nat) (cy : Nat → ClassId) (av : List Value) (v : VV) (post : Nat → VV → Prop) : Prop :=
  Met l y ws rm (va_Pc av (Hp dC dI base cy v)) (va_Qr (fun u : Nat × VV => post u.1 u.2) (fun u a U => a = base + u.1 ∧ Hp dC dI base cy u.2 U) (fun q => base ≤ q)) 0 0 (fun q => base ≤ q)
section KQ
variable {p : Program} {l : Launch} {e : Env} {R : Room} {s : State} {m : MethodId} {args : Array Value} {below : List Frame} {meth : Method} {c : Code} {H : Heap} {locs : List Loc} {cells slots : Nat} {Q : State → Prop}
variable {cc : ByteArray} {pc : Nat} {ls : Array Slot} {rest st0 As : List Value} {dC : Nat → ClassId} {dI : Nat → Nat → Nat} {base : Nat} {cy : Nat → ClassId} {v : VV} {H0 : Heap}
variable {y : MethodName} {ws : List Cond} {rm : Room} {Ts : List Cond} {own C : String} {bytes : ByteArray} {index maxL nL n o ci N : Nat} {ret : Option FieldType} {T : u_T}
theorem k_Q (F : CallFix p m c cc nL s args Ts own) {post : Nat → VV → Prop} (hM : CQ l y ws rm dC dI base cy (.ref (base + o) :: As) v post) (cw : CallW R s args own C index y bytes maxL ret ws rm 0 0 n) (hK : va_K (dC, dI) vwCl (tyL cy) s) (hP : va_P (dC, dI) vwCl (Wd base cy rf v 874) H) (hS : va_S (fun q => base ≤ q) H0 H locs) (hO : isO ci o) (hci : ci < 11) (hc : vwCl[ci]? = some (C, T, N)) (hn : As.length = n) (hsz : ls.size = nL) (hst : st0 = As.reverse ++ .ref (base + o) :: rest) (hW : (rest.map fun v => v.category).sum ≤ 8) (hdg : decode cc pc = .ok (.invokevirtual index, 3)) (hr : cells ≤ R.cells ∧ slots ≤ R.slots)
    (kk : ∀ (t : Nat) (v1 : VV) (H1 : Heap) (locs1 : List Loc), post t v1 → va_P (dC, dI) vwCl (Wd base cy rf v1 874) H1 → va_S (fun q => base ≤ q) H0 H1 locs1 → W p l e R s m args below meth c H1 locs1 cells slots Q (F0 m (pc + 3) ls (.ref (base + t) :: rest))) : W p l e R s m args below meth c H locs cells slots Q (F0 m pc ls st0) := by
  refine va_callr (va_runV (As := As) (rest := rest) F hM cw ⟨Hp_blind, rcv_of hK hP hO hci hc, Hp_pre hP hK⟩ rfl hn hsz hst (lv_room hW) hdg hr) hS (fun _ _ h => h) (fun _ h => h) (fun u a t H1 locs1 ht hvm hw hB hz1 hk1 hS1 => ?_)
  obtain ⟨rfl, h1, h2⟩ := hB
  exact kk u.1 u.2 H1 locs1 hw (by rw [← ht]; exact h1) hS1
end KQ
section RW2
variable {p : Program} {l : Launch} {e : Env} {R : Room} {s : State} {m : MethodId} {args : Array Value} {below : List Frame} {meth : Method} {c : Code} {H : Heap} {locs : List Loc} {cells slots : Nat} {Q : State → Prop}
variable {cc : ByteArray} {pc : Nat} {ls : Array Slot} {rest : List Value} {D : va_G} {base : Nat} {cy : Nat → ClassId} {r : RR} {v : VV} {n : Nat} {H0 : Heap}
theorem w_al (hx : p.tables.exec = Jvm.exec) (hb : c.code = cc) (hK : va_K D vwCl (tyL cy) s) (hP : va_P D vwCl (Wd base cy r v n) H) {o N : Nat} {x : Int32} (ho : o < n) (hO : isO 11 o) (hN : sz o = N) (hv : Int32.ofNat N = x) (hdg : decode cc pc = .ok (.arraylength, 1))
    (kk : W p l e R s m args below meth c H locs cells slots Q (F0 m (pc + 1) ls (.int x :: rest))) : W p l e R s m args below meth c H locs cells slots Q (F0 m pc ls (.ref (base + o) :: rest)) := by
  have he := Wd_at (base := base) (cy := cy) (r := r) (v := v) ho
  rw [ce_int hO.2 (by decide) (by decide), hN] at he
  exact va_alen hx hb hK hP o 0 he rfl hv hdg kk
theorem w_cp (hx : p.tables.exec = Jvm.exec) (hb : c.code = cc) (hml : c.maxLocals = ls.size) {own : String} {index : Nat} (hown : s.vm.findClass own = some m.cls) (hlink : (Cond.methodLink own index arraycopyName).before args s = true) (hnat : (Cond.native arraycopyName).before args s = true) (hstat : (Cond.static arraycopyName).before args s = true) (hini : (Cond.initialized "java/lang/System").before args s = true)
    (hK : va_K D vwCl (tyL cy) s) (hP : va_P D vwCl (Wd base cy r v n) H) (hS : va_S (fun q => base ≤ q) H0 H locs) {o1 o2 N1 N2 : Nat} (h1 : o1 < n) (hO1 : isO 11 o1) (hs1 : sz o1 = N1) (h2 : o2 < n) (hO2 : isO 11 o2) (hs2 : sz o2 = N2) {sp dp k : Int32} (hcp : ¬ sp < 0 ∧ ¬ dp < 0 ∧ ¬ k < 0 ∧ sp.toNatClampNeg + k.toNatClampNeg ≤ N1 ∧ dp.toNatClampNeg + k.toNatClampNeg ≤ N2)
    (hframes : 1 ≤ R.frames) (hlocals : (rest.map fun v => v.category).sum + (nativeFrameWords "java/lang/System" "arraycopy" 5 + 11) ≤ R.locals) (hdg : decode cc pc = .ok (.invokestatic index, 3))
    (kk : ∀ (v1 : VV) (H1 : Heap) (locs1 : List Loc), v1 = up1 v o2 (va_cpy (v o1) (v o2) sp.toNatClampNeg dp.toNatClampNeg k.toNatClampNeg) → va_P D vwCl (Wd base cy r v1 n) H1 → va_S (fun q => base ≤ q) H0 H1 locs1 → W p l e R s m args below meth c H1 locs1 cells slots Q (F0 m (pc + 3) ls rest)) : W p l e R s m args below meth c H locs cells slots Q (F0 m pc ls (.int k :: .int dp :: .ref (base + o2) :: .int sp :: .ref (base + o1) :: rest)) := by
  have he1 := Wd_at (base := base) (cy := cy) (r := r) (v := v) h1
  rw [ce_int hO1.2 (by decide) (by decide), hs1] at he1
  have he2 := Wd_at (base := base) (cy := cy) (r := r) (v := v) h2
  rw [ce_int hO2.2 (by decide) (by decide), hs2] at he2
  obtain ⟨g1, g2, g3, g4, g5⟩ := hcp
  refine va_copyi hx hb hml hown hlink hnat hstat hini hK hP Wd_D hS o1 o2 0 0 he1 he2 rfl rfl rfl g1 g2 g3 g4 g5 (fun i hi => rfl) hframes hlocals hdg (fun H1 locs1 hp hd hs => kk _ H1 locs1 rfl ?_ hs)
  have e := Wd_rowI (base := base) (cy := cy) (r := r) (v := v) (n := n) (f := va_cpy (v o1) (v o2) sp.toNatClampNeg dp.toNatClampNeg k.toNatClampNeg) hO2.2 (by decide) (by decide)
  rw [hs2] at e
  rw [← e]
  exact hp
theorem w_aaI (hx : p.tables.exec = Jvm.exec) (hb : c.code = cc) (hK : va_K D vwCl (tyL cy) s) (hP : va_P D vwCl (Wd base cy r v n) H) {o N t : Nat} (ho : o < n) (hO : isO 16 o) (hN : sz o = N) {i : Int32} (hin : vp_in i N) (hr : r o i.toNatClampNeg = some t) (hdg : decode cc pc = .ok (.aaload, 1))
    (kk : W p l e R s m args below meth c H locs cells slots Q (F0 m (pc + 1) ls (.ref (base + t) :: rest))) : W p l e R s m args below meth c H locs cells slots Q (F0 m pc ls (.int i :: .ref (base + o) :: rest)) := by
  have he := Wd_at (base := base) (cy := cy) (r := r) (v := v) ho
  rw [ce_ref hO.2 (by decide), hN] at he
  have hlt : i.toNatClampNeg < N := in_lt hin
  have ht : (tyL cy)[5]? = some (cy 16, .array .int) := rfl
  refine W.aald (v := va_rf ((r o i.toNatClampNeg).map (fun t => base + t))) (ty := .array .int) hx hb (hP o _ he) ((hK.2 5 _ ht).1 N (fun j => va_rf ((r o j).map (fun t => base + t)))) rfl (fun q => by cases q) (by show ¬ (i < 0 ∨ (arrV _ _ _).slots.size ≤ _); rw [arrV_size]; exact hin) (by show (arrV _ _ _).slots[_]? = _; rw [arrV_read _ _ hlt]) rfl rfl hdg ?_
  rw [hr]
  exact kk
end RW2
theorem mcp_i : Cond.initialized "java/lang/System" ∈ TB := mB (mT1 (List.mem_of_getElem? (i := 13) (by decide +kernel))) rfl
theorem mcp_s : Cond.static arraycopyName ∈ TB := mB (mT2 (List.mem_of_getElem? (i := 224) (by decide +kernel))) rfl
theorem mcp_n : Cond.native arraycopyName ∈ TB := mB (mT2 (List.mem_of_getElem? (i := 225) (by decide +kernel))) rfl
