/-! CONTRACTS over the one world, behind the constructors: the picture is Wd base cy rf v 874, and v alone moves. -/
def Hp (dC : Nat → ClassId) (dI : Nat → Nat → Nat) (base : Nat) (cy : Nat → ClassId) (v : VV) (U : State) : Prop := va_P (dC, dI) vwCl (Wd base cy rf v 874) U.heap ∧ va_K (dC, dI) vwCl (tyL cy) U
theorem Hp_blind {dC : Nat → ClassId} {dI : Nat → Nat → Nat} {base : Nat} {cy : Nat → ClassId} {v : VV} {av : List Value} : FrameBlind (va_Pc av (Hp dC dI base cy v)) := fun a U g mk q => ⟨q.1, q.2.1, va_K.moved (u := U) (U := U.calling g mk a) (Vm.Alike.refl U.vm) q.2.2⟩
/-- a method that answers an int -/
abbrev CI (l : Launch) (y : MethodName) (ws : List Cond) (rm : Room) (dC : Nat → ClassId) (dI : Nat → Nat → Nat) (base : Nat) (cy : Nat → ClassId) (av : List Value) (v : VV) (post : Int32 → VV → Prop) : Prop :=
  Met l y ws rm (va_Pc av (Hp dC dI base cy v)) (va_Qi post (Hp dC dI base cy) (fun q => base ≤ q)) 0 0 (fun q => base ≤ q)
/-- a void method -/
abbrev CV (l : Launch) (y : MethodName) (ws : List Cond) (rm : Room) (dC : Nat → ClassId) (dI : Nat → Nat → Nat) (base : Nat) (cy : Nat → ClassId) (av : List Value) (v : VV) (post : VV → Prop) : Prop :=
  Met l y ws rm (va_Pc av (Hp dC dI base cy v)) (va_Qv post (Hp dC dI base cy) (fun q => base ≤ q)) 0 0 (fun q => base ≤ q)
/-- a method that answers the cell t and changes nothing -/
abbrev CR (l : Launch) (y : MethodName) (ws : List Cond) (rm : Room) (dC : Nat → ClassId) (dI : Nat → Nat → Nat) (base : Nat) (cy : Nat → ClassId) (av : List Value) (v : VV) (t : Nat) : Prop :=
  Met l y ws rm (va_Pc av (Hp dC dI base cy v)) (va_Qr (fun _ : Unit => True) (fun _ a U => a = base + t ∧ Hp dC dI base cy v U) (fun q => base ≤ q)) 0 0 (fun q => base ≤ q)
section KC
variable {p : Program} {l : Launch} {e : Env} {R : Room} {s : State} {m : MethodId} {args : Array Value} {below : List Frame} {meth : Method} {c : Code} {H : Heap} {locs : List Loc} {cells slots : Nat} {Q : State → Prop}
variable {cc : ByteArray} {pc : Nat} {ls : Array Slot} {rest st0 As : List Value} {dC : Nat → ClassId} {dI : Nat → Nat → Nat} {base : Nat} {cy : Nat → ClassId} {v : VV} {H0 : Heap}
variable {y : MethodName} {ws : List Cond} {rm : Room} {Ts : List Cond} {own C : String} {bytes : ByteArray} {index maxL nL n o ci N : Nat} {ret : Option FieldType} {T : u_T}
theorem Hp_pre (hP : va_P (dC, dI) vwCl (Wd base cy rf v 874) H) (hK : va_K (dC, dI) vwCl (tyL cy) s) {av : List Value} : ∀ U : State, U.heap = H → s.WarmedH U.vm → va_Pc av (Hp dC dI base cy v) av.toArray U := fun U hU hW => ⟨rfl, by rw [hU]; exact hP, va_K.moved hW.alike hK⟩
theorem rcv_of (hK : va_K (dC, dI) vwCl (tyL cy) s) (hP : va_P (dC, dI) vwCl (Wd base cy rf v 874) H) (hO : isO ci o) (hci : ci < 11) (hc : vwCl[ci]? = some (C, T, N)) : ∃ cell : Cell, H[base + o]? = some cell ∧ cell.vm.isStatics = false ∧ s.vm.findClass C = some cell.cls := by
  have he := Wd_at (base := base) (cy := cy) (r := rf) (v := v) hO.1
  rw [ce_obj hO.2 hci] at he
  exact va_recv hK hP (ci := ci) (q0 := o) hc he
theorem k_I (F : CallFix p m c cc nL s args Ts own) {post : Int32 → VV → Prop} (hM : CI l y ws rm dC dI base cy (.ref (base + o) :: As) v post) (cw : CallW R s args own C index y bytes maxL ret ws rm 0 0 n) (hK : va_K (dC, dI) vwCl (tyL cy) s) (hP : va_P (dC, dI) vwCl (Wd base cy rf v 874) H) (hS : va_S (fun q => base ≤ q) H0 H locs) (hO : isO ci o) (hci : ci < 11) (hc : vwCl[ci]? = some (C, T, N)) (hn : As.length = n) (hsz : ls.size = nL) (hst : st0 = As.reverse ++ .ref (base + o) :: rest) (hW : (rest.map fun v => v.category).sum ≤ 8) (hdg : decode cc pc = .ok (.invokevirtual index, 3)) (hr : cells ≤ R.cells ∧ slots ≤ R.slots)
    (kk : ∀ (x : Int32) (v1 : VV) (H1 : Heap) (locs1 : List Loc), post x v1 → va_P (dC, dI) vwCl (Wd base cy rf v1 874) H1 → va_S (fun q => base ≤ q) H0 H1 locs1 → W p l e R s m args below meth c H1 locs1 cells slots Q (F0 m (pc + 3) ls (.int x :: rest))) : W p l e R s m args below meth c H locs cells slots Q (F0 m pc ls st0) := by
  refine va_calli (va_runV (As := As) (rest := rest) F hM cw ⟨Hp_blind, rcv_of hK hP hO hci hc, Hp_pre hP hK⟩ rfl hn hsz hst (lv_room hW) hdg hr) hS (fun _ _ h => h) (fun _ h => h) (fun x u t H1 locs1 ht hvm hw hB hz1 hk1 hS1 => kk x u H1 locs1 hw ?_ hS1)
  rw [← ht]
  exact hB.1
theorem k_V (F : CallFix p m c cc nL s args Ts own) {post : VV → Prop} (hM : CV l y ws rm dC dI base cy (.ref (base + o) :: As) v post) (cw : CallW R s args own C index y bytes maxL ret ws rm 0 0 n) (hK : va_K (dC, dI) vwCl (tyL cy) s) (hP : va_P (dC, dI) vwCl (Wd base cy rf v 874) H) (hS : va_S (fun q => base ≤ q) H0 H locs) (hO : isO ci o) (hci : ci < 11) (hc : vwCl[ci]? = some (C, T, N)) (hn : As.length = n) (hsz : ls.size = nL) (hst : st0 = As.reverse ++ .ref (base + o) :: rest) (hW : (rest.map fun v => v.category).sum ≤ 8) (hdg : decode cc pc = .ok (.invokevirtual index, 3)) (hr : cells ≤ R.cells ∧ slots ≤ R.slots)
    (kk : ∀ (v1 : VV) (H1 : Heap) (locs1 : List Loc), post v1 → va_P (dC, dI) vwCl (Wd base cy rf v1 874) H1 → va_S (fun q => base ≤ q) H0 H1 locs1 → W p l e R s m args below meth c H1 locs1 cells slots Q (F0 m (pc + 3) ls rest)) : W p l e R s m args below meth c H locs cells slots Q (F0 m pc ls st0) := by
  refine va_callv (va_runV (As := As) (rest := rest) F hM cw ⟨Hp_blind, rcv_of hK hP hO hci hc, Hp_pre hP hK⟩ rfl hn hsz hst (lv_room hW) hdg hr) hS (fun _ _ h => h) (fun _ h => h) (fun u t H1 locs1 ht hvm hw hB hz1 hk1 hS1 => kk u H1 locs1 hw ?_ hS1)
  rw [← ht]
  exact hB.1
theorem k_R {t0 : Nat} (F : CallFix p m c cc nL s args Ts own) (hM : CR l y ws rm dC dI base cy (.ref (base + o) :: As) v t0) (cw : CallW R s args own C index y bytes maxL ret ws rm 0 0 n) (hK : va_K (dC, dI) vwCl (tyL cy) s) (hP : va_P (dC, dI) vwCl (Wd base cy rf v 874) H) (hS : va_S (fun q => base ≤ q) H0 H locs) (hO : isO ci o) (hci : ci < 11) (hc : vwCl[ci]? = some (C, T, N)) (hn : As.length = n) (hsz : ls.size = nL) (hst : st0 = As.reverse ++ .ref (base + o) :: rest) (hW : (rest.map fun v => v.category).sum ≤ 8) (hdg : decode cc pc = .ok (.invokevirtual index, 3)) (hr : cells ≤ R.cells ∧ slots ≤ R.slots)
    (kk : ∀ (H1 : Heap) (locs1 : List Loc), va_P (dC, dI) vwCl (Wd base cy rf v 874) H1 → va_S (fun q => base ≤ q) H0 H1 locs1 → W p l e R s m args below meth c H1 locs1 cells slots Q (F0 m (pc + 3) ls (.ref (base + t0) :: rest))) : W p l e R s m args below meth c H locs cells slots Q (F0 m pc ls st0) := by
  refine va_callr (va_runV (As := As) (rest := rest) F hM cw ⟨Hp_blind, rcv_of hK hP hO hci hc, Hp_pre hP hK⟩ rfl hn hsz hst (lv_room hW) hdg hr) hS (fun _ _ h => h) (fun _ h => h) (fun u a t H1 locs1 ht hvm hw hB hz1 hk1 hS1 => ?_)
  obtain ⟨rfl, h1, h2⟩ := hB
  exact kk H1 locs1 (by rw [← ht]; exact h1) hS1
theorem kS_I (F : CallFix p m c cc nL s args Ts own) {post : Int32 → VV → Prop} (hM : CI l y ws rm dC dI base cy As v post) (cw : CallB R s args own index y bytes maxL ret ws rm 0 0 n ∧ (Cond.static y).before args s = true) (hK : va_K (dC, dI) vwCl (tyL cy) s) (hP : va_P (dC, dI) vwCl (Wd base cy rf v 874) H) (hS : va_S (fun q => base ≤ q) H0 H locs) (hn : As.length = n) (hsz : ls.size = nL) (hst : st0 = As.reverse ++ rest) (hW : (rest.map fun v => v.category).sum ≤ 8) (hdg : decode cc pc = .ok (.invokestatic index, 3)) (hr : cells ≤ R.cells ∧ slots ≤ R.slots)
    (kk : ∀ (x : Int32) (v1 : VV) (H1 : Heap) (locs1 : List Loc), post x v1 → va_P (dC, dI) vwCl (Wd base cy rf v1 874) H1 → va_S (fun q => base ≤ q) H0 H1 locs1 → W p l e R s m args below meth c H1 locs1 cells slots Q (F0 m (pc + 3) ls (.int x :: rest))) : W p l e R s m args below meth c H locs cells slots Q (F0 m pc ls st0) := by
  refine va_calli (va_runS (As := As) (rest := rest) F hM cw ⟨Hp_blind, Hp_pre hP hK⟩ rfl hn hsz hst (lv_room hW) hdg hr) hS (fun _ _ h => h) (fun _ h => h) (fun x u t H1 locs1 ht hvm hw hB hz1 hk1 hS1 => kk x u H1 locs1 hw ?_ hS1)
  rw [← ht]
  exact hB.1
end KC
