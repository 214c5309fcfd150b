/-! ROWS over the one world. -/
def nf (c : Nat) : Nat := [15, 15, 11, 6, 4, 7, 4, 4, 2, 4, 64].getD c 0
theorem sz_obj : ∀ o, o < 874 → kd o < 11 → sz o = nf (kd o) := by decide +kernel
abbrev isO (c o : Nat) : Prop := o < 874 ∧ kd o = c
theorem isO.sz {c o : Nat} (h : isO c o) (hc : c < 11) : sz o = nf c := by
  have := sz_obj o h.1 (by rw [h.2]; exact hc)
  rw [this, h.2]
abbrev tyL (cy : Nat → ClassId) : List (ClassId × FieldType) := [(cy 11, .int), (cy 12, .boolean), (cy 13, .object RX5), (cy 14, .object RX0), (cy 15, .object RX4), (cy 16, .array .int)]
section RW
variable {p : Program} {l : Launch} {e : Env} {R : Room} {s : State} {m : MethodId} {args : Array Value} {below : List Frame} {meth : Method} {c : Code} {H : Heap} {locs : List Loc} {cells slots : Nat} {Q : State → Prop}
variable {cc : ByteArray} {pc : Nat} {ls : Array Slot} {rest : List Value} {D : va_G} {base : Nat} {cy : Nat → ClassId} {r : RR} {v : VV} {n : Nat} {H0 : Heap}
theorem w_gI (hx : p.tables.exec = Jvm.exec) (hb : c.code = cc) {own C : String} {T : u_T} {N ci index : Nat} {Ts : List Cond} (hts : ∀ w ∈ Ts, w.before args s = true) (hin : ∀ w ∈ u_ws C T N, w ∈ Ts) (hown : s.vm.findClass own = some m.cls) (hK : va_K D vwCl (tyL cy) s) (hP : va_P D vwCl (Wd base cy r v n) H) {o : Nat} (k : Nat) (ho : o < n) (hO : isO ci o) (hc : vwCl[ci]? = some (C, T, N)) (hN : ci < 11 ∧ nf ci = N ∧ k < N ∧ isR ci k = false) (hlink : (Cond.fieldLink own index (T k).1 (T k).2.1 (T k).2.2.1).before args s = true) (hdg : decode cc pc = .ok (.getfield index, 3))
    (kk : W p l e R s m args below meth c H locs cells slots Q (F0 m (pc + 3) ls (.int (v o k) :: rest))) : W p l e R s m args below meth c H locs cells slots Q (F0 m pc ls (.ref (base + o) :: rest)) := by
  obtain ⟨h1, h2, h3, h4⟩ := hN
  have he := Wd_at (base := base) (cy := cy) (r := r) (v := v) ho
  rw [ce_obj hO.2 h1] at he
  refine va_get (D := D) (ci := ci) (v := .int (v o k)) (C := C) (T := T) (N := N) hx hb hts hin hown hK hP o he hc k h3 hlink (fun _ h => h) ?_ hdg kk
  rw [pv_at (by rw [hO.sz h1, h2]; exact h3)]
  simp [pv, hO.2, h4]
theorem w_gR (hx : p.tables.exec = Jvm.exec) (hb : c.code = cc) {own C : String} {T : u_T} {N ci index : Nat} {Ts : List Cond} (hts : ∀ w ∈ Ts, w.before args s = true) (hin : ∀ w ∈ u_ws C T N, w ∈ Ts) (hown : s.vm.findClass own = some m.cls) (hK : va_K D vwCl (tyL cy) s) (hP : va_P D vwCl (Wd base cy r v n) H) {o t : Nat} (k : Nat) (ho : o < n) (hO : isO ci o) (hc : vwCl[ci]? = some (C, T, N)) (hN : ci < 11 ∧ nf ci = N ∧ k < N ∧ isR ci k = true) (hr : r o k = some t) (hlink : (Cond.fieldLink own index (T k).1 (T k).2.1 (T k).2.2.1).before args s = true) (hdg : decode cc pc = .ok (.getfield index, 3))
    (kk : W p l e R s m args below meth c H locs cells slots Q (F0 m (pc + 3) ls (.ref (base + t) :: rest))) : W p l e R s m args below meth c H locs cells slots Q (F0 m pc ls (.ref (base + o) :: rest)) := by
  obtain ⟨h1, h2, h3, h4⟩ := hN
  have he := Wd_at (base := base) (cy := cy) (r := r) (v := v) ho
  rw [ce_obj hO.2 h1] at he
  refine va_get (D := D) (ci := ci) (v := .ref (base + t)) (C := C) (T := T) (N := N) hx hb hts hin hown hK hP o he hc k h3 hlink (fun _ h => h) ?_ hdg kk
  rw [pv_at (by rw [hO.sz h1, h2]; exact h3)]
  simp [pv, hO.2, h4, hr, va_rf]
/-- what a put leaves, with the heap's size -/
theorem w_put0 (hx : p.tables.exec = Jvm.exec) (hb : c.code = cc) {own C : String} {T : u_T} {N ci index : Nat} {Ts : List Cond} (hts : ∀ w ∈ Ts, w.before args s = true) (hin : ∀ w ∈ u_ws C T N, w ∈ Ts) (ty0 : Nat → FieldType) (hty : ∀ k, k < N → parseFieldDescriptor (T k).2.2.1 = some (ty0 k)) (hnm : ∀ a, a < N → ∀ b, b < N → a ≠ b → (T a).2.1 ≠ (T b).2.1) (hown : s.vm.findClass own = some m.cls) (hK : va_K D vwCl (tyL cy) s) (hP : va_P D vwCl (Wd base cy r v n) H) (hS0 : va_S (fun q => base ≤ q) H0 H locs) {o : Nat} (k : Nat) (ho : o < n) (hO : isO ci o) (hc : vwCl[ci]? = some (C, T, N)) (hN : ci < 11 ∧ nf ci = N ∧ k < N) (hlink : (Cond.fieldLink own index (T k).1 (T k).2.1 (T k).2.2.1).before args s = true) (hfin : (T k).2.2.2 = false) {ty : FieldType} {x : Value} (hd : parseFieldDescriptor (T k).2.2.1 = some ty) (hn : narrow ty x = x) (hfit : fits ty x = true) (hdg : decode cc pc = .ok (.putfield index, 3))
    (kk : ∀ (H1 : Heap) (locs1 : List Loc), va_P D vwCl ((Wd base cy r v n).set o (base + o, .inr (ci, ((List.range (sz o)).map (pv base r v o)).set k x))) H1 → H1.size = H.size → va_S (fun q => base ≤ q) H0 H1 locs1 → W p l e R s m args below meth c H1 locs1 cells slots Q (F0 m (pc + 3) ls rest)) : W p l e R s m args below meth c H locs cells slots Q (F0 m pc ls (x :: .ref (base + o) :: rest)) := by
  obtain ⟨hc1, hc2, hk⟩ := hN
  have he := Wd_at (base := base) (cy := cy) (r := r) (v := v) ho
  rw [ce_obj hO.2 hc1] at he
  have hap := va_apart (own := own) hts hin ty0 hty hnm hK hc
  obtain ⟨r0, h1, cell, q1, q2, q3, q4⟩ := hP o _ he
  have hr : r0 = (C, T, N) := Option.some.inj (h1.symm.trans hc)
  subst hr
  obtain ⟨hS, hfc, kC, hkC, hkind⟩ := hK.1 ci _ hc
  obtain ⟨cf, kf, fi, f, hi, hsl⟩ := hS k hk
  have hlay := hts _ (hin _ (u_in_lay hk))
  unfold u_lay at hlay
  rw [if_neg (by rw [hfin]; decide)] at hlay
  have hst := (u_facts hfc hkC (u_lays hts hin hk) hi).1
  have h6 := u_store hfc hkC hkind hlay hi hd hn hfit
  refine W.putK hx hb (f := f) ⟨hown, hlink, ⟨_, _, _, hi⟩, hst⟩ (by rw [q2]; exact h6) q1 q3 (by rw [hsl]; exact k2_hasslot (q4 k hk)) rfl rfl hdg fun H' e1 e2 e3 => ?_
  rw [hsl] at e1 ⊢
  exact kk H' _ (hP.set Wd_D he ⟨_, hc, t_OB.to (V := updV (vp_V _) k x) ⟨_, e1, q2, q3, t_set q4 hap hk x⟩ (fun j _ => vp_updV_set (by rw [List.length_map, List.length_range, hO.sz hc1, hc2]; exact hk) x j)⟩ e3) e2 (hS0.put e2 e3 (Nat.le_add_right _ _))
theorem w_putF0 (hx : p.tables.exec = Jvm.exec) (hb : c.code = cc) {own C : String} {T : u_T} {N ci index : Nat} {Ts : List Cond} (hts : ∀ w ∈ Ts, w.before args s = true) (hin : ∀ w ∈ u_ws C T N, w ∈ Ts) (ty0 : Nat → FieldType) (hty : ∀ k, k < N → parseFieldDescriptor (T k).2.2.1 = some (ty0 k)) (hnm : ∀ a, a < N → ∀ b, b < N → a ≠ b → (T a).2.1 ≠ (T b).2.1) (hown : s.vm.findClass own = some m.cls) (hK : va_K D vwCl (tyL cy) s) (hP : va_P D vwCl (Wd base cy r v n) H) (hS0 : va_S (fun q => base ≤ q) H0 H locs) {o : Nat} (k : Nat) (ho : o < n) (hO : isO ci o) (hc : vwCl[ci]? = some (C, T, N)) (hN : ci < 11 ∧ nf ci = N ∧ k < N) (hlink : (Cond.fieldLink own index (T k).1 (T k).2.1 (T k).2.2.1).before args s = true) (hfin : (T k).2.2.2 = true) (hin2 : meth.name = "<init>") (hdecl : (T k).1 = own) {ty : FieldType} {x : Value} (hd : parseFieldDescriptor (T k).2.2.1 = some ty) (hn : narrow ty x = x) (hfit : fits ty x = true) (hdg : decode cc pc = .ok (.putfield index, 3))
    (kk : ∀ (H1 : Heap) (locs1 : List Loc), va_P D vwCl ((Wd base cy r v n).set o (base + o, .inr (ci, ((List.range (sz o)).map (pv base r v o)).set k x))) H1 → H1.size = H.size → va_S (fun q => base ≤ q) H0 H1 locs1 → W p l e R s m args below meth c H1 locs1 cells slots Q (F0 m (pc + 3) ls rest)) : W p l e R s m args below meth c H locs cells slots Q (F0 m pc ls (x :: .ref (base + o) :: rest)) := by
  obtain ⟨hc1, hc2, hk⟩ := hN
  have he := Wd_at (base := base) (cy := cy) (r := r) (v := v) ho
  rw [ce_obj hO.2 hc1] at he
  have hap := va_apart (own := own) hts hin ty0 hty hnm hK hc
  obtain ⟨r0, h1, cell, q1, q2, q3, q4⟩ := hP o _ he
  have hr : r0 = (C, T, N) := Option.some.inj (h1.symm.trans hc)
  subst hr
  obtain ⟨hS, hfc, kC, hkC, hkind⟩ := hK.1 ci _ hc
  obtain ⟨cf, kf, fi, f, hi, hsl⟩ := hS k hk
  have hlay := hts _ (hin _ (u_in_lay hk))
  unfold u_lay at hlay
  rw [if_pos hfin] at hlay
  have hst := (u_facts hfc hkC (u_lays hts hin hk) hi).1
  have hcf : m.cls = cf := by
    obtain ⟨_, _, c', _, _, _, -, -, hf', -, -, -, hown2, -⟩ := Cond.laysFinal_spec hlay
    have e1 : c' = cf := by have := hi.symm.trans hf'; simp at this; exact this.1.symm
    rw [hdecl] at hown2
    rw [← e1]; exact Option.some.inj (hown.symm.trans hown2)
  have h6 := u_fits hfc hkC hkind (Or.inr hlay) hi hd hn hfit
  refine W.putFinK hx hb hown hlink hi hst hcf hin2 (by rw [q2]; exact h6) q1 q3 (by rw [hsl]; exact k2_hasslot (q4 k hk)) rfl rfl hdg fun H' e1 e2 e3 => ?_
  rw [hsl] at e1 ⊢
  exact kk H' _ (hP.set Wd_D he ⟨_, hc, t_OB.to (V := updV (vp_V _) k x) ⟨_, e1, q2, q3, t_set q4 hap hk x⟩ (fun j _ => vp_updV_set (by rw [List.length_map, List.length_range, hO.sz hc1, hc2]; exact hk) x j)⟩ e3) e2 (hS0.put e2 e3 (Nat.le_add_right _ _))
/-- put of an int (or a boolean) -/
theorem w_pI (hx : p.tables.exec = Jvm.exec) (hb : c.code = cc) {own C : String} {T : u_T} {N ci index : Nat} {Ts : List Cond} (hts : ∀ w ∈ Ts, w.before args s = true) (hin : ∀ w ∈ u_ws C T N, w ∈ Ts) (ty0 : Nat → FieldType) (hty : ∀ k, k < N → parseFieldDescriptor (T k).2.2.1 = some (ty0 k)) (hnm : ∀ a, a < N → ∀ b, b < N → a ≠ b → (T a).2.1 ≠ (T b).2.1) (hown : s.vm.findClass own = some m.cls) (hK : va_K D vwCl (tyL cy) s) (hP : va_P D vwCl (Wd base cy r v n) H) (hS0 : va_S (fun q => base ≤ q) H0 H locs) {o : Nat} (k : Nat) (ho : o < n) (hO : isO ci o) (hc : vwCl[ci]? = some (C, T, N)) (hN : ci < 11 ∧ nf ci = N ∧ k < N ∧ isR ci k = false) (hlink : (Cond.fieldLink own index (T k).1 (T k).2.1 (T k).2.2.1).before args s = true) (hfin : (T k).2.2.2 = false) {ty : FieldType} {x : Int32} (hd : parseFieldDescriptor (T k).2.2.1 = some ty) (hn : narrow ty (.int x) = .int x) (hfit : fits ty (.int x) = true) (hdg : decode cc pc = .ok (.putfield index, 3))
    (kk : ∀ (v1 : VV) (H1 : Heap) (locs1 : List Loc), v1 = up2 v o k x → va_P D vwCl (Wd base cy r v1 n) H1 → H1.size = H.size → va_S (fun q => base ≤ q) H0 H1 locs1 → W p l e R s m args below meth c H1 locs1 cells slots Q (F0 m (pc + 3) ls rest)) : W p l e R s m args below meth c H locs cells slots Q (F0 m pc ls (.int x :: .ref (base + o) :: rest)) := by
  refine w_put0 hx hb hts hin ty0 hty hnm hown hK hP hS0 k ho hO hc ⟨hN.1, hN.2.1, hN.2.2.1⟩ hlink hfin hd hn hfit hdg (fun H1 locs1 h1 h2 h3 => kk _ H1 locs1 rfl ?_ h2 h3)
  rw [Wd_putI hO.2 hN.1 hN.2.2.2] at h1
  exact h1
theorem w_pIF (hx : p.tables.exec = Jvm.exec) (hb : c.code = cc) {own C : String} {T : u_T} {N ci index : Nat} {Ts : List Cond} (hts : ∀ w ∈ Ts, w.before args s = true) (hin : ∀ w ∈ u_ws C T N, w ∈ Ts) (ty0 : Nat → FieldType) (hty : ∀ k, k < N → parseFieldDescriptor (T k).2.2.1 = some (ty0 k)) (hnm : ∀ a, a < N → ∀ b, b < N → a ≠ b → (T a).2.1 ≠ (T b).2.1) (hown : s.vm.findClass own = some m.cls) (hK : va_K D vwCl (tyL cy) s) (hP : va_P D vwCl (Wd base cy r v n) H) (hS0 : va_S (fun q => base ≤ q) H0 H locs) {o : Nat} (k : Nat) (ho : o < n) (hO : isO ci o) (hc : vwCl[ci]? = some (C, T, N)) (hN : ci < 11 ∧ nf ci = N ∧ k < N ∧ isR ci k = false) (hlink : (Cond.fieldLink own index (T k).1 (T k).2.1 (T k).2.2.1).before args s = true) (hfin : (T k).2.2.2 = true) (hin2 : meth.name = "<init>") (hdecl : (T k).1 = own) {ty : FieldType} {x : Int32} (hd : parseFieldDescriptor (T k).2.2.1 = some ty) (hn : narrow ty (.int x) = .int x) (hfit : fits ty (.int x) = true) (hdg : decode cc pc = .ok (.putfield index, 3))
    (kk : ∀ (v1 : VV) (H1 : Heap) (locs1 : List Loc), v1 = up2 v o k x → va_P D vwCl (Wd base cy r v1 n) H1 → H1.size = H.size → va_S (fun q => base ≤ q) H0 H1 locs1 → W p l e R s m args below meth c H1 locs1 cells slots Q (F0 m (pc + 3) ls rest)) : W p l e R s m args below meth c H locs cells slots Q (F0 m pc ls (.int x :: .ref (base + o) :: rest)) := by
  refine w_putF0 hx hb hts hin ty0 hty hnm hown hK hP hS0 k ho hO hc ⟨hN.1, hN.2.1, hN.2.2.1⟩ hlink hfin hin2 hdecl hd hn hfit hdg (fun H1 locs1 h1 h2 h3 => kk _ H1 locs1 rfl ?_ h2 h3)
  rw [Wd_putI hO.2 hN.1 hN.2.2.2] at h1
  exact h1
/-- put of a reference into a final field, in a constructor -/
theorem w_pRF (hx : p.tables.exec = Jvm.exec) (hb : c.code = cc) {own C : String} {T : u_T} {N ci index : Nat} {Ts : List Cond} (hts : ∀ w ∈ Ts, w.before args s = true) (hin : ∀ w ∈ u_ws C T N, w ∈ Ts) (ty0 : Nat → FieldType) (hty : ∀ k, k < N → parseFieldDescriptor (T k).2.2.1 = some (ty0 k)) (hnm : ∀ a, a < N → ∀ b, b < N → a ≠ b → (T a).2.1 ≠ (T b).2.1) (hown : s.vm.findClass own = some m.cls) (hK : va_K D vwCl (tyL cy) s) (hP : va_P D vwCl (Wd base cy r v n) H) (hS0 : va_S (fun q => base ≤ q) H0 H locs) {o t : Nat} (k : Nat) (ho : o < n) (hO : isO ci o) (hc : vwCl[ci]? = some (C, T, N)) (hN : ci < 11 ∧ nf ci = N ∧ k < N ∧ isR ci k = true) (hlink : (Cond.fieldLink own index (T k).1 (T k).2.1 (T k).2.2.1).before args s = true) (hfin : (T k).2.2.2 = true) (hin2 : meth.name = "<init>") (hdecl : (T k).1 = own) {ty : FieldType} (hd : parseFieldDescriptor (T k).2.2.1 = some ty) (hn : narrow ty (.ref (base + t)) = .ref (base + t)) (hfit : fits ty (.ref (base + t)) = true) (hdg : decode cc pc = .ok (.putfield index, 3))
    (kk : ∀ (r1 : RR) (H1 : Heap) (locs1 : List Loc), r1 = up2 r o k (some t) → va_P D vwCl (Wd base cy r1 v n) H1 → H1.size = H.size → va_S (fun q => base ≤ q) H0 H1 locs1 → W p l e R s m args below meth c H1 locs1 cells slots Q (F0 m (pc + 3) ls rest)) : W p l e R s m args below meth c H locs cells slots Q (F0 m pc ls (.ref (base + t) :: .ref (base + o) :: rest)) := by
  refine w_putF0 hx hb hts hin ty0 hty hnm hown hK hP hS0 k ho hO hc ⟨hN.1, hN.2.1, hN.2.2.1⟩ hlink hfin hin2 hdecl hd hn hfit hdg (fun H1 locs1 h1 h2 h3 => kk _ H1 locs1 rfl ?_ h2 h3)
  rw [Wd_putR hO.2 hN.1 hN.2.2.2] at h1
  exact h1
/-- rows of ints -/
theorem w_ia (hx : p.tables.exec = Jvm.exec) (hb : c.code = cc) (hK : va_K D vwCl (tyL cy) s) (hP : va_P D vwCl (Wd base cy r v n) H) {o N : Nat} (ho : o < n) (hO : isO 11 o) (hN : sz o = N) {i : Int32} (hin : vp_in i N) (hdg : decode cc pc = .ok (.iaload, 1))
    (kk : W p l e R s m args below meth c H locs cells slots Q (F0 m (pc + 1) ls (.int (v o i.toNatClampNeg) :: rest))) : W p l e R s m args below meth c H locs cells slots Q (F0 m pc ls (.int i :: .ref (base + o) :: rest)) := by
  have he := Wd_at (base := base) (cy := cy) (r := r) (v := v) ho
  rw [ce_int hO.2 (by decide) (by decide), hN] at he
  exact va_iald hx hb hK hP o 0 he rfl hin hdg kk
theorem w_is (hx : p.tables.exec = Jvm.exec) (hb : c.code = cc) (hK : va_K D vwCl (tyL cy) s) (hP : va_P D vwCl (Wd base cy r v n) H) (hS : va_S (fun q => base ≤ q) H0 H locs) {o N : Nat} (ho : o < n) (hO : isO 11 o) (hN : sz o = N) {i x : Int32} (hin : vp_in i N) (hdg : decode cc pc = .ok (.iastore, 1))
    (kk : ∀ (v1 : VV) (H1 : Heap) (locs1 : List Loc), v1 = up2 v o i.toNatClampNeg x → va_P D vwCl (Wd base cy r v1 n) H1 → H1.size = H.size → va_S (fun q => base ≤ q) H0 H1 locs1 → W p l e R s m args below meth c H1 locs1 cells slots Q (F0 m (pc + 1) ls rest)) : W p l e R s m args below meth c H locs cells slots Q (F0 m pc ls (.int x :: .int i :: .ref (base + o) :: rest)) := by
  have he := Wd_at (base := base) (cy := cy) (r := r) (v := v) ho
  rw [ce_int hO.2 (by decide) (by decide), hN] at he
  have ht : (tyL cy)[0]? = some (cy 11, .int) := rfl
  refine W.iast hx hb (hP o _ he) ((hK.2 0 _ ht).1 N (fun j => .int (v o j))) (fun q => by cases q) (by show ¬ (i < 0 ∨ (arrV _ _ _).slots.size ≤ _); rw [arrV_size]; exact hin) rfl rfl hdg fun H1 e1 z oq => ?_
  refine kk _ H1 _ rfl ?_ z (hS.put z oq (Nat.le_add_right _ _))
  rw [← Wd_astI hO.2 (by decide) (by decide), hN]
  refine hP.set Wd_D he ?_ oq
  show H1[base + o]? = some (vp_cell _ _)
  rw [e1, vp_cell_i, vp_cell_i, arrV_store]
  congr 2
  funext q
  by_cases hq : q = i.toNatClampNeg
  · subst hq
    simp [updV, upd]
  · simp [updV, upd, hq]
theorem w_za (hx : p.tables.exec = Jvm.exec) (hb : c.code = cc) (hK : va_K D vwCl (tyL cy) s) (hP : va_P D vwCl (Wd base cy r v n) H) {o N : Nat} (ho : o < n) (hO : isO 12 o) (hN : sz o = N) {i : Int32} (hin : vp_in i N) (hdg : decode cc pc = .ok (.baload, 1))
    (kk : W p l e R s m args below meth c H locs cells slots Q (F0 m (pc + 1) ls (.int (v o i.toNatClampNeg) :: rest))) : W p l e R s m args below meth c H locs cells slots Q (F0 m pc ls (.int i :: .ref (base + o) :: rest)) := by
  have he := Wd_at (base := base) (cy := cy) (r := r) (v := v) ho
  rw [ce_int hO.2 (by decide) (by decide), hN] at he
  exact va_zald hx hb hK hP o 1 he rfl hin hdg kk
theorem w_zs (hx : p.tables.exec = Jvm.exec) (hb : c.code = cc) (hK : va_K D vwCl (tyL cy) s) (hP : va_P D vwCl (Wd base cy r v n) H) (hS : va_S (fun q => base ≤ q) H0 H locs) {o N : Nat} (ho : o < n) (hO : isO 12 o) (hN : sz o = N) {i x : Int32} (hin : vp_in i N) (hdg : decode cc pc = .ok (.bastore, 1))
    (kk : ∀ (v1 : VV) (H1 : Heap) (locs1 : List Loc), v1 = up2 v o i.toNatClampNeg (vp_nar .boolean x) → va_P D vwCl (Wd base cy r v1 n) H1 → H1.size = H.size → va_S (fun q => base ≤ q) H0 H1 locs1 → W p l e R s m args below meth c H1 locs1 cells slots Q (F0 m (pc + 1) ls rest)) : W p l e R s m args below meth c H locs cells slots Q (F0 m pc ls (.int x :: .int i :: .ref (base + o) :: rest)) := by
  have he := Wd_at (base := base) (cy := cy) (r := r) (v := v) ho
  rw [ce_int hO.2 (by decide) (by decide), hN] at he
  have ht : (tyL cy)[1]? = some (cy 12, .boolean) := rfl
  refine W.zast hx hb (hP o _ he) ((hK.2 1 _ ht).1 N (fun j => .int (v o j))) (fun q => by cases q) (by show ¬ (i < 0 ∨ (arrV _ _ _).slots.size ≤ _); rw [arrV_size]; exact hin) rfl rfl hdg fun H1 e1 z oq => ?_
  refine kk _ H1 _ rfl ?_ z (hS.put z oq (Nat.le_add_right _ _))
  rw [← Wd_astI hO.2 (by decide) (by decide), hN]
  refine hP.set Wd_D he ?_ oq
  show H1[base + o]? = some (vp_cell _ _)
  rw [e1, vp_cell_i, vp_cell_i, arrV_store]
  congr 2
  funext q
  by_cases hq : q = i.toNatClampNeg
  · subst hq
    simp [updV, upd, vp_nar]
    try rfl
  · simp [updV, upd, hq]
/-- rows of references -/
theorem w_aa (hx : p.tables.exec = Jvm.exec) (hb : c.code = cc) (hK : va_K D vwCl (tyL cy) s) (hP : va_P D vwCl (Wd base cy r v n) H) {o N k q0 t : Nat} {C : String} (ho : o < n) (hO : isO k o) (hk : 13 ≤ k) (hq : (tyL cy)[q0]? = some (cy k, .object C)) (hN : sz o = N) {i : Int32} (hin : vp_in i N) (hr : r o i.toNatClampNeg = some t) (hdg : decode cc pc = .ok (.aaload, 1))
    (kk : W p l e R s m args below meth c H locs cells slots Q (F0 m (pc + 1) ls (.ref (base + t) :: rest))) : W p l e R s m args below meth c H locs cells slots Q (F0 m pc ls (.int i :: .ref (base + o) :: rest)) := by
  have he := Wd_at (base := base) (cy := cy) (r := r) (v := v) ho
  rw [ce_ref hO.2 hk, hN] at he
  refine va_aldq hx hb hK hP o q0 he hq hin hdg ?_
  rw [hr]
  exact kk
end RW
