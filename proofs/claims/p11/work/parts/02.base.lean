/-! THE CELLS. One world for the system and its twin: cell number o lies at base + o; which kind of cell o is (kd), how many places it has (sz), which of its places are references (isR) and where they point when all is made (rf) are fixed by the order in which the constructors make them; what varies is v : cell -> place -> int. -/
def kdE (j : Nat) : Nat := if j = 0 then 0 else if j = 1 then 3 else if j = 2 then 15 else if j < 123 then (if j % 3 = 0 then 4 else if j % 3 = 1 then 11 else 8) else if j = 123 then 1 else if j = 124 then 16 else if j = 134 then 12 else if j = 135 then 12 else if j = 140 then 7 else if j = 142 then 8 else if j = 143 then 6 else if j = 145 then 8 else 11
def szE (j : Nat) : Nat := if j = 0 then 15 else if j = 1 then 6 else if j = 2 then 40 else if j < 123 then (if j % 3 = 0 then 4 else if j % 3 = 1 then 8 else 2) else if j = 123 then 15 else if j < 136 then 8 else if j = 136 then 256 else if j = 137 then 32 else if j = 138 then 32 else if j = 139 then 256 else if j = 140 then 4 else if j = 141 then 8 else if j = 142 then 2 else if j = 143 then 4 else if j = 144 then 512 else 2
def kd (o : Nat) : Nat := if o < 522 then (if o < 10 then [9, 2, 13, 5, 11, 11, 11, 11, 11, 11].getD o 0 else if o % 2 = 0 then 5 else 11) else if o = 522 then 14 else if o < 669 then kdE (o - 523) else if o < 815 then kdE (o - 669) else if o = 815 then 11 else if o = 816 then 10 else if o = 820 then 12 else if o = 833 then 12 else if o = 849 then 12 else 11
def szM : List Nat := [2, 2, 2, 2, 2, 2, 2, 2, 2, 2, 2, 40, 2, 2, 2, 80, 80, 80, 80, 80, 640, 2, 2, 2, 2, 16, 2, 2, 2, 2, 2, 256, 256, 2048, 2, 2, 8192, 2, 128, 128, 16384, 2, 2, 8192, 2, 2048, 64, 60, 60, 60, 60, 81920, 4096, 4096, 4096, 20, 20]
def sz (o : Nat) : Nat := if o < 522 then (if o < 10 then [4, 11, 256, 7, 17, 60, 60, 60, 60, 2].getD o 0 else if o % 2 = 0 then 7 else 17) else if o = 522 then 2 else if o < 669 then szE (o - 523) else if o < 815 then szE (o - 669) else if o = 815 then 64 else if o = 816 then 64 else szM.getD (o - 817) 0
def isR (c k : Nat) : Bool := match c with
  | 0 => decide (1 ≤ k ∧ k < 7)
  | 1 => decide (k < 8)
  | 2 => decide (k < 7)
  | 3 => decide (k = 0)
  | 4 => decide (k < 2)
  | 5 => decide (k = 0)
  | 6 => decide (k = 0)
  | 7 => decide (k < 2)
  | 9 => decide (k < 3)
  | 10 => !([0, 48, 49, 54, 55, 61, 63].contains k)
  | _ => false
def rfM : List (Option Nat) := [none, some 817, some 818, some 819, some 820, some 821, some 822, some 823, some 824, some 825, some 826, some 827, some 828, some 829, some 830, some 831, some 832, some 833, some 834, some 835, some 836, some 837, some 838, some 839, some 840, some 841, some 842, some 843, some 844, some 845, some 846, some 847, some 848, some 849, some 850, some 851, some 852, some 853, some 854, some 855, some 856, some 857, some 858, some 859, some 860, some 861, some 862, some 863, none, none, some 864, some 865, some 866, some 867, none, none, some 868, some 869, some 870, some 871, some 872, none, some 873, none]
def rf (o k : Nat) : Option Nat := match kd o with
  | 0 => if k = 1 then some 1 else if k = 2 then some (o + 1) else if k = 3 then some (o + 123) else if k = 4 then some (o + 140) else if k = 5 then some (o + 143) else if k = 6 then some (o + 145) else none
  | 1 => if k = 0 then some (o + 1) else if k = 1 then some (o + 10) else if k = 2 then some (o + 11) else if k = 3 then some (o + 12) else if k = 4 then some (o + 13) else if k = 5 then some (o + 14) else if k = 6 then some (o + 15) else if k = 7 then some (o + 16) else none
  | 2 => if k = 0 then some 2 else if k = 1 then some 3 else if k = 2 then some 5 else if k = 3 then some 6 else if k = 4 then some 7 else if k = 5 then some 8 else if k = 6 then some 9 else none
  | 3 => if k = 0 then some (o + 1) else none
  | 4 => if k = 0 then some (o + 1) else if k = 1 then some (o + 2) else none
  | 5 => if k = 0 then some (o + 1) else none
  | 6 => if k = 0 then some (o + 1) else none
  | 7 => if k = 0 then some (o + 1) else if k = 1 then some (o + 2) else none
  | 9 => if k = 0 then some 1 else if k = 1 then some 522 else if k = 2 then some 815 else none
  | 10 => rfM.getD k none
  | 13 => if k < 256 then some (10 + 2 * k) else none
  | 14 => if k < 2 then some (523 + 146 * k) else none
  | 15 => if k < 40 then some (o + 1 + 3 * k) else none
  | 16 => if k < 8 then some (o + 1 + k) else none
  | _ => none
abbrev VV : Type := Nat → Nat → Int32
abbrev RR : Type := Nat → Nat → Option Nat
def up2 {α : Type} (v : Nat → Nat → α) (o k : Nat) (x : α) : Nat → Nat → α := fun a b => if a = o then (if b = k then x else v a b) else v a b
def up1 {α : Type} (v : Nat → Nat → α) (o : Nat) (f : Nat → α) : Nat → Nat → α := fun a b => if a = o then f b else v a b
def pv (base : Nat) (r : RR) (v : VV) (o k : Nat) : Value := if isR (kd o) k then va_rf ((r o k).map (fun t => base + t)) else .int (v o k)
def ce (base : Nat) (cy : Nat → ClassId) (r : RR) (v : VV) (o : Nat) : va_E :=
  if kd o < 11 then .inr (kd o, (List.range (sz o)).map (pv base r v o))
  else if kd o < 13 then .inl (cy (kd o), sz o, .inl (v o))
  else .inl (cy (kd o), sz o, .inr (.inr (.inr (.inr (fun j => (r o j).map (fun t => base + t))))))
def Wd (base : Nat) (cy : Nat → ClassId) (r : RR) (v : VV) (n : Nat) : va_W := (List.range n).map (fun o => (base + o, ce base cy r v o))
theorem Wd_at {base : Nat} {cy : Nat → ClassId} {r : RR} {v : VV} {n o : Nat} (h : o < n) : (Wd base cy r v n)[o]? = some (base + o, ce base cy r v o) := by
  simp [Wd, List.getElem?_range h]
theorem Wd_in {base : Nat} {cy : Nat → ClassId} {r : RR} {v : VV} {n k : Nat} {q : Nat × va_E} (h : (Wd base cy r v n)[k]? = some q) : k < n ∧ q = (base + k, ce base cy r v k) := by
  have hk : k < n := by
    have := (List.getElem?_eq_some_iff.mp h).1
    simpa [Wd] using this
  rw [Wd_at hk] at h
  exact ⟨hk, (Option.some.inj h).symm⟩
theorem Wd_D {base : Nat} {cy : Nat → ClassId} {r : RR} {v : VV} {n : Nat} : va_D (fun q => base ≤ q) (Wd base cy r v n) := by
  refine ⟨fun i j p q hi hj hpq => ?_, fun k q hk => ?_⟩
  · have h1 := (Wd_in hi).2
    have h2 := (Wd_in hj).2
    rw [h1, h2] at hpq
    have : base + i = base + j := hpq
    omega
  · rw [(Wd_in hk).2]
    exact Nat.le_add_right _ _
theorem Wd_push {base : Nat} {cy : Nat → ClassId} {r : RR} {v : VV} {n : Nat} : Wd base cy r v n ++ [(base + n, ce base cy r v n)] = Wd base cy r v (n + 1) := by
  simp [Wd, List.range_succ]
theorem Wd_ext {base : Nat} {cy : Nat → ClassId} {r r' : RR} {v v' : VV} {n : Nat} (h : ∀ o, o < n → ce base cy r v o = ce base cy r' v' o) : Wd base cy r v n = Wd base cy r' v' n := by
  unfold Wd
  apply List.map_congr_left
  intro o ho
  rw [h o (List.mem_range.mp ho)]
theorem Wd_set {base : Nat} {cy : Nat → ClassId} {r r' : RR} {v v' : VV} {n o : Nat} {e : va_E} (he : ce base cy r' v' o = e) (h : ∀ a, a ≠ o → ce base cy r' v' a = ce base cy r v a) : (Wd base cy r v n).set o (base + o, e) = Wd base cy r' v' n := by
  apply List.ext_getElem?
  intro k
  by_cases hk : k < n
  · rw [Wd_at hk, List.getElem?_set]
    by_cases e1 : o = k
    · subst e1
      have hl : o < (Wd base cy r v n).length := by simpa [Wd] using hk
      rw [if_pos rfl, if_pos hl, he]
    · rw [if_neg e1, Wd_at hk, h k (fun q => e1 q.symm)]
  · have h1 : (Wd base cy r' v' n)[k]? = none := List.getElem?_eq_none (by simpa [Wd] using Nat.le_of_not_lt hk)
    have h2 : ((Wd base cy r v n).set o (base + o, e))[k]? = none := List.getElem?_eq_none (by simpa [Wd] using Nat.le_of_not_lt hk)
    rw [h1, h2]
theorem up2_s {α : Type} (v : Nat → Nat → α) (o k : Nat) (x : α) : up2 v o k x o k = x := by simp [up2]
theorem up2_k {α : Type} (v : Nat → Nat → α) (o k : Nat) (x : α) {b : Nat} (h : b ≠ k) : up2 v o k x o b = v o b := by simp [up2, h]
theorem up2_o {α : Type} (v : Nat → Nat → α) (o k : Nat) (x : α) {a : Nat} (b : Nat) (h : a ≠ o) : up2 v o k x a b = v a b := by simp [up2, h]
theorem up2_of {α : Type} (v : Nat → Nat → α) (o k : Nat) (x : α) {a : Nat} (h : a ≠ o) : up2 v o k x a = v a := by funext b; simp [up2, h]
theorem up2_f {v : VV} {o k : Nat} {x : Int32} : up2 v o k x o = upd (v o) k x := by
  funext b
  simp [up2, upd]
theorem ce_off {base : Nat} {cy : Nat → ClassId} {r r' : RR} {v v' : VV} {o : Nat} (h1 : r o = r' o) (h2 : v o = v' o) : ce base cy r v o = ce base cy r' v' o := by
  have e : pv base r v o = pv base r' v' o := by
    funext k
    simp only [pv, h1, h2]
  simp only [ce, e, h1, h2]
theorem ce_obj {base : Nat} {cy : Nat → ClassId} {r : RR} {v : VV} {o c : Nat} (h : kd o = c) (hc : c < 11) : ce base cy r v o = .inr (c, (List.range (sz o)).map (pv base r v o)) := by
  subst h
  simp [ce, hc]
theorem ce_int {base : Nat} {cy : Nat → ClassId} {r : RR} {v : VV} {o c : Nat} (h : kd o = c) (h1 : 11 ≤ c) (h2 : c < 13) : ce base cy r v o = .inl (cy c, sz o, .inl (v o)) := by
  subst h
  simp [ce, h2, Nat.not_lt.mpr h1]
theorem ce_ref {base : Nat} {cy : Nat → ClassId} {r : RR} {v : VV} {o c : Nat} (h : kd o = c) (h1 : 13 ≤ c) : ce base cy r v o = .inl (cy c, sz o, .inr (.inr (.inr (.inr (fun j => (r o j).map (fun t => base + t)))))) := by
  subst h
  simp [ce, show ¬ kd o < 13 by omega, show ¬ kd o < 11 by omega]
theorem pv_at {base : Nat} {r : RR} {v : VV} {o n k : Nat} (h : k < n) : ((List.range n).map (pv base r v o))[k]? = some (pv base r v o k) := by
  simp [List.getElem?_range h]
theorem pv_set {base : Nat} {r r' : RR} {v v' : VV} {o n k : Nat} {x : Value} (hx : pv base r' v' o k = x) (h : ∀ b, b ≠ k → pv base r' v' o b = pv base r v o b) : ((List.range n).map (pv base r v o)).set k x = (List.range n).map (pv base r' v' o) := by
  apply List.ext_getElem?
  intro b
  by_cases hb : b < n
  · rw [pv_at hb, List.getElem?_set]
    by_cases e1 : k = b
    · subst e1
      rw [if_pos rfl, if_pos (by simpa using hb), hx]
    · rw [if_neg e1, pv_at hb, h b (fun q => e1 q.symm)]
  · rw [List.getElem?_eq_none (by simpa using Nat.le_of_not_lt hb), List.getElem?_eq_none (by simpa using Nat.le_of_not_lt hb)]
/-- an int put -/
theorem Wd_putI {base : Nat} {cy : Nat → ClassId} {r : RR} {v : VV} {n o k c : Nat} {x : Int32} (h : kd o = c) (hc : c < 11) (hr : isR c k = false) : (Wd base cy r v n).set o (base + o, .inr (c, ((List.range (sz o)).map (pv base r v o)).set k (.int x))) = Wd base cy r (up2 v o k x) n := by
  refine Wd_set ?_ (fun a ha => ce_off rfl (up2_of v o k x ha))
  rw [ce_obj h hc]
  congr 2
  refine (pv_set ?_ (fun b hb => ?_)).symm
  · simp [pv, h, hr, up2_s]
  · simp only [pv, up2_k v o k x hb]
/-- a reference put -/
theorem Wd_putR {base : Nat} {cy : Nat → ClassId} {r : RR} {v : VV} {n o k c t : Nat} (h : kd o = c) (hc : c < 11) (hr : isR c k = true) : (Wd base cy r v n).set o (base + o, .inr (c, ((List.range (sz o)).map (pv base r v o)).set k (.ref (base + t)))) = Wd base cy (up2 r o k (some t)) v n := by
  refine Wd_set ?_ (fun a ha => ce_off (up2_of r o k _ ha) rfl)
  rw [ce_obj h hc]
  congr 2
  refine (pv_set ?_ (fun b hb => ?_)).symm
  · simp [pv, h, hr, up2_s, va_rf]
  · simp only [pv, up2_k r o k _ hb]
/-- an int stored in a row -/
theorem Wd_astI {base : Nat} {cy : Nat → ClassId} {r : RR} {v : VV} {n o k c : Nat} {x : Int32} (h : kd o = c) (h1 : 11 ≤ c) (h2 : c < 13) : (Wd base cy r v n).set o (base + o, .inl (cy c, sz o, .inl (upd (v o) k x))) = Wd base cy r (up2 v o k x) n := by
  refine Wd_set ?_ (fun a ha => ce_off rfl (up2_of v o k x ha))
  rw [ce_int h h1 h2, up2_f]
/-- a row of ints set whole -/
theorem Wd_rowI {base : Nat} {cy : Nat → ClassId} {r : RR} {v : VV} {n o c : Nat} {f : Nat → Int32} (h : kd o = c) (h1 : 11 ≤ c) (h2 : c < 13) : (Wd base cy r v n).set o (base + o, .inl (cy c, sz o, .inl f)) = Wd base cy r (up1 v o f) n := by
  refine Wd_set ?_ (fun a ha => ce_off rfl (by funext b; simp [up1, ha]))
  rw [ce_int h h1 h2]
  have e : up1 v o f o = f := by funext b; simp [up1]
  rw [e]
theorem Wd_astR {base : Nat} {cy : Nat → ClassId} {r : RR} {v : VV} {n o k c t : Nat} (h : kd o = c) (h1 : 13 ≤ c) : (Wd base cy r v n).set o (base + o, .inl (cy c, sz o, .inr (.inr (.inr (.inr (va_up (fun j => (r o j).map (fun t => base + t)) k (some (base + t)))))))) = Wd base cy (up2 r o k (some t)) v n := by
  refine Wd_set ?_ (fun a ha => ce_off (up2_of r o k _ ha) rfl)
  rw [ce_ref h h1]
  congr 6
  refine congrArg Sum.inr (funext fun j => ?_)
  by_cases hj : j = k
  · subst hj; simp [up2_s, va_up]
  · rw [up2_k r o k _ hj]; simp [va_up, hj]
