/-! new int[8][8]: no row of the kit has it; the state behind it, by the number of inner rows that are made -/
def mz (T : State) (cA cI : ClassId) (h : Nat) : Nat → State
  | 0 => T.pushCell (arrV cA 8 (fun _ => .null))
  | i + 1 => ((mz T cA cI h i).pushCell (arrV cI 8 (fun _ => .int 0))).setCell h (arrV cA 8 (fun j => va_rf (if j < i + 1 then some (h + 1 + j) else none)))
theorem mz_row {cA : ClassId} {h i : Nat} : (arrV cA 8 (fun j => va_rf (if j < i then some (h + 1 + j) else none))).setSlot i (.ref (h + 1 + i)) = arrV cA 8 (fun j => va_rf (if j < i + 1 then some (h + 1 + j) else none)) := by
  rw [arrV_store]
  congr 1
  funext j
  by_cases e1 : j = i
  · subst e1; simp [updV, va_rf]
  · by_cases e2 : j < i
    · simp [updV, e1, e2, Nat.lt_succ_of_lt e2]
    · simp [updV, e1, e2, show ¬ j < i + 1 by omega]
theorem mz_f (T : State) (cA cI : ClassId) : ∀ i, (mz T cA cI T.heap.size i).heap.size = T.heap.size + 1 + i ∧ (mz T cA cI T.heap.size i).heap[T.heap.size]? = some (arrV cA 8 (fun j => va_rf (if j < i then some (T.heap.size + 1 + j) else none))) ∧ (mz T cA cI T.heap.size i).vm = T.vm ∧ (mz T cA cI T.heap.size i).slotsUsed = T.slotsUsed + 8 + i * 8
  | 0 => by
    refine ⟨by simp [mz], ?_, rfl, by simp [mz, arrV_size]⟩
    rw [mz, State.heap_pushCell_size]
    simp [va_rf]
  | i + 1 => by
    obtain ⟨a, b, d, u⟩ := mz_f T cA cI i
    have hlt : T.heap.size < (mz T cA cI T.heap.size i).heap.size := by omega
    have hb : ((mz T cA cI T.heap.size i).pushCell (arrV cI 8 (fun _ => .int 0))).heap[T.heap.size]? = some (arrV cA 8 (fun j => va_rf (if j < i then some (T.heap.size + 1 + j) else none))) := by
      rw [State.heap_pushCell_of_lt (h := hlt)]; exact b
    refine ⟨?_, ?_, ?_, ?_⟩
    · simp [mz, State.setCell, a]; omega
    · rw [mz]; exact State.heap_setCell_self hb
    · simp [mz, d]
    · simp [mz, u, arrV_size]; omega
theorem mz_old (T : State) (cA cI : ClassId) {q : Nat} (hq : q < T.heap.size) : ∀ i, (mz T cA cI T.heap.size i).heap[q]? = T.heap[q]?
  | 0 => State.heap_pushCell_of_lt _ _ hq
  | i + 1 => by
    have hlt : q < (mz T cA cI T.heap.size i).heap.size := by rw [(mz_f T cA cI i).1]; omega
    rw [mz, State.heap_setCell_other (Nat.ne_of_gt hq), State.heap_pushCell_of_lt (h := hlt)]
    exact mz_old T cA cI hq i
theorem mz_in (T : State) (cA cI : ClassId) : ∀ i j, j < i → (mz T cA cI T.heap.size i).heap[T.heap.size + 1 + j]? = some (arrV cI 8 (fun _ => .int 0))
  | 0, _, h => absurd h (Nat.not_lt_zero _)
  | i + 1, j, h => by
    have f1 := (mz_f T cA cI i).1
    rw [mz, State.heap_setCell_other (show T.heap.size ≠ T.heap.size + 1 + j by omega)]
    by_cases hj : j < i
    · have hlt : T.heap.size + 1 + j < (mz T cA cI T.heap.size i).heap.size := by rw [f1]; omega
      rw [State.heap_pushCell_of_lt (h := hlt)]
      exact mz_in T cA cI i j hj
    · rw [show j = i by omega, ← f1]
      exact State.heap_pushCell_size _ _
theorem mz_top (T : State) (f : JFrame) (cA cI : ClassId) : ∀ i, mz (T.setTop f) cA cI T.heap.size i = (mz T cA cI T.heap.size i).setTop f
  | 0 => rfl
  | i + 1 => by
    show ((mz (T.setTop f) cA cI T.heap.size i).pushCell _).setCell _ _ = _
    rw [mz_top T f cA cI i]
    rfl
section MZ
variable {p : Program} {l : Launch} {e : Env} {R : Room} {s : State} {m : MethodId} {args : Array Value} {below : List Frame} {meth : Method} {c : Code} {T : State} {locs : List Loc} {cells slots : Nat}
theorem mz_st (X : Stand p l e R s m args below meth c T locs cells slots) (cA cI : ClassId) : ∀ i, ∃ L : List Loc, (∀ q ∈ L, q.base = T.heap.size) ∧ Stand p l e R s m args below meth c (mz T cA cI T.heap.size i) (locs ++ L) (cells + 1 + i) (slots + 8 + i * 8)
  | 0 => by
    have h := X.pushed (arrV cA 8 (fun _ => .null))
    rw [arrV_size] at h
    exact ⟨[], (fun q hq => absurd hq List.not_mem_nil), by simpa [mz] using h⟩
  | i + 1 => by
    obtain ⟨L, hL, Xi⟩ := mz_st X cA cI i
    obtain ⟨f1, f2, -, -⟩ := mz_f T cA cI i
    have hlt : T.heap.size < (mz T cA cI T.heap.size i).heap.size := by rw [f1]; omega
    have hb : ((mz T cA cI T.heap.size i).pushCell (arrV cI 8 (fun _ => .int 0))).heap[T.heap.size]? = some (arrV cA 8 (fun j => va_rf (if j < i then some (T.heap.size + 1 + j) else none))) := by
      rw [State.heap_pushCell_of_lt (h := hlt)]; exact f2
    have h := (Xi.pushed (arrV cI 8 (fun _ => .int 0))).stored hb i (.ref (T.heap.size + 1 + i))
    rw [mz_row, arrV_size] at h
    refine ⟨L ++ [⟨T.heap.size, i⟩], fun q hq => ?_, ?_⟩
    · rcases List.mem_append.mp hq with h1 | h1
      · exact hL q h1
      · rw [List.mem_singleton.mp h1]
    · rw [← List.append_assoc, show slots + 8 + (i + 1) * 8 = slots + 8 + i * 8 + 8 by omega]
      exact h
end MZ
section MW
variable {E : CtlPost} {e : Env} {d : Bool} {acts : List Action} {s : State}
theorem mz_new {cc comp : ClassId} {k : Class} {type : FieldType} {init : Value} (hk : s.vm.classes[cc]? = some k) (hkind : k.kind = .array comp type) (hlimit : ¬ 8 > e.platform.arrayLengthLimit) (hheap : ¬ 8 * componentBytes type > e.platform.maxHeapBytes) (hfit : fits type init = true) (hdef : init.isDefault = true) {Q : Addr → Pre}
    (h1 : s.heap.size < e.platform.maxCells) (h2 : s.slotsUsed + 8 ≤ e.platform.maxSlots) (hq : Q s.heap.size d acts (s.pushCell (arrV cc 8 (fun _ => init)))) : wp (Jvm.newArray cc 8 init) Q E e d acts s := by
  have hfits : ∀ i v, (Array.replicate 8 init)[i]? = some v → s.fitsSlot cc .none i v = true := by
    intro i v hv
    rw [Array.getElem?_replicate] at hv
    split at hv
    · cases hv; simp [State.fitsSlot, State.slotType?, hk, hkind, hfit]
    · cases hv
  have hda : allocActs (Array.replicate 8 init) s.heap.size acts = acts := by
    have hall : ((Array.replicate 8 init).all (·.isDefault)) = true := by
      rw [Array.all_replicate]; simp [hdef]
    unfold allocActs; rw [if_pos hall]
  rw [← arrV_new] at hq
  simp only [Jvm.newArray, Jvm.arrayFits, wp_bind', W.ask, W.ite, hlimit, if_false, wp_pure', W.theClass, hk, hkind, hheap, W.alloc, W.stop, Option.some.injEq, exists_eq_left', Array.size_replicate, hda]
  rw [if_neg (by omega)]
  exact ⟨h1, h2, hfits, hq⟩
theorem mz_make {cA cI ce : ClassId} {k kc : Class} (hk : s.vm.classes[cA]? = some k) (hkind : k.kind = .array cI (.array .int)) (hkc : s.vm.classes[cI]? = some kc) (hkindc : kc.kind = .array ce .int) (hl : ¬ 8 > e.platform.arrayLengthLimit) (hh : ¬ 8 * 4 > e.platform.maxHeapBytes) (hc : s.heap.size + 9 ≤ e.platform.maxCells) (hs : s.slotsUsed + 72 ≤ e.platform.maxSlots)
    {Q : Addr → Pre} (hq : ∀ d' acts', Q s.heap.size d' acts' (mz s cA cI s.heap.size 8)) : wp (multianewarray.make cA [8, 8]) Q E e d acts s := by
  have h8 : ((8 : Int32) < 0) = False := by decide
  have hn : (8 : Int32).toNatClampNeg = 8 := by decide
  have hfind : (([8] : List Int32).find? (· < 0)) = none := by decide
  rw [multianewarray.make]
  simp only [wp_bind', W.ite, h8, if_false, wp_pure', W.theClass, hk, hkind, Option.some.injEq, exists_eq_left', hn]
  refine mz_new hk hkind hl hh rfl rfl (by omega) (by omega) ?_
  simp only [hfind]
  rw [ite_self, wp_bind', Std.Legacy.Range.forIn_eq_forIn_range']
  show wp (forIn (List.range' 0 8 1) PUnit.unit _) _ E e d acts _
  refine wp_forIn_inv (fun rest s' => ∃ i, i ≤ 8 ∧ rest = List.range' i (8 - i) ∧ s' = mz s cA cI s.heap.size i) _ _ ⟨0, Nat.zero_le _, rfl, rfl⟩ ?_ ?_
  · rintro x rest s' d' acts' Q' ⟨i, hi, hl2, rfl⟩ hnext
    have hlt : i < 8 := by
      rcases Nat.lt_or_ge i 8 with h | h
      · exact h
      · rw [show 8 - i = 0 by omega] at hl2; simp at hl2
    obtain ⟨rfl, hrest⟩ : x = i ∧ rest = List.range' (i + 1) (8 - (i + 1)) := by
      rw [show 8 - i = (8 - (i + 1)) + 1 by omega, List.range'_succ] at hl2
      exact ⟨(List.cons.inj hl2).1, (List.cons.inj hl2).2⟩
    obtain ⟨f1, f2, f3, f4⟩ := mz_f s cA cI x
    have hlt0 : s.heap.size < (mz s cA cI s.heap.size x).heap.size := by rw [f1]; omega
    simp only [wp_bind']
    rw [multianewarray.make]
    simp only [wp_bind', W.ite, h8, if_false, wp_pure', W.theClass, f3, hkc, hkindc, Option.some.injEq, exists_eq_left', hn]
    refine mz_new (by rw [f3]; exact hkc) hkindc hl hh rfl rfl (by rw [f1]; omega) (by rw [f4]; omega) ?_
    simp only [wp_bind', W.writeLoc, wp_pure']
    refine ⟨_, by rw [State.heap_pushCell_of_lt (h := hlt0)]; exact f2, (fun h => by cases h), by rw [arrV_size]; exact hlt, ?_, hnext _ _ _ ⟨x + 1, hlt, hrest, ?_⟩⟩
    · show State.fitsSlot _ cA .none x _ = true
      simp [State.fitsSlot, State.slotType?, f3, hk, hkind]
      rfl
    · rw [f1, mz_row]; rfl
  · rintro s' d' acts' ⟨i, hi, hl2, rfl⟩
    have hi8 : i = 8 := by
      rcases Nat.lt_or_ge i 8 with h | h
      · rw [show 8 - i = (8 - (i + 1)) + 1 by omega, List.range'_succ] at hl2; cases hl2
      · omega
    subst hi8
    simp only [wp_pure']
    exact hq _ _
end MW
section MR
variable {p : Program} {l : Launch} {e : Env} {R : Room} {s : State} {m : MethodId} {args : Array Value} {below : List Frame} {meth : Method} {c : Code} {H : Heap} {locs : List Loc} {cells slots : Nat} {Q : State → Prop}
variable {cc : ByteArray} {pc : Nat} {ls : Array Slot} {rest : List Value}
theorem W.mna8 (hexec : p.tables.exec = Jvm.exec) (hb : c.code = cc) {own : String} {index : Nat} (hown : s.vm.findClass own = some m.cls) (hclink : (Cond.classLink own index ("[" ++ (FieldType.array .int).toString)).before args s = true) (hover : (Cond.arrayOver (.array .int)).before args s = true) (harr : (Cond.arrayClass .int).before args s = true) (hcells : cells + 9 ≤ R.cells) (hslots : slots + 72 ≤ R.slots) (hdg : decode cc pc = .ok (.multianewarray index 2, 4))
    (kk : ∀ (H1 : Heap) (L : List Loc) (cA cI : ClassId), (∀ q ∈ L, q.base = H.size) → s.vm.findClass ("[" ++ (FieldType.array .int).toString) = some cA → s.vm.findClass (FieldType.array .int).toString = some cI → H1.size = H.size + 9 → H1[H.size]? = some (arrV cA 8 (fun j => va_rf (if j < 8 then some (H.size + 1 + j) else none))) → (∀ j, j < 8 → H1[H.size + 1 + j]? = some (arrV cI 8 (fun _ => .int 0))) → (∀ q, q < H.size → H1[q]? = H[q]?) →
      W p l e R s m args below meth c H1 (locs ++ L) (cells + 9) (slots + 72) Q (F0 m (pc + 4) ls (.ref H.size :: rest))) : W p l e R s m args below meth c H locs cells slots Q (F0 m pc ls (.int 8 :: .int 8 :: rest)) := by
  intro T hT X
  subst hT; subst hb
  have hpl : e.platform.magicAccessors = ({} : Platform).magicAccessors := by rw [X.admits.platform]
  obtain ⟨cI, cA, kA, hcI, -, hkA, hkindA, hnameA⟩ := arrayOverA_spec hover
  obtain ⟨cI', kC, ce, hcI', hkC, hkindC⟩ := Cond.arrayClass_spec harr
  have eI : cI' = cI := Option.some.inj (hcI'.symm.trans hcI)
  subst eI
  obtain ⟨c0, hfc0, hcl⟩ := Cond.classLink_spec hown hclink e.platform hpl
  cases hnameA.symm.trans hfc0
  obtain ⟨hg₁, hwarm₁, hready₁⟩ := State.classEntry (e := e) X.warmed hcl
  generalize T.vm.noted m.cls index (.cls cA) = vm₁ at hg₁ hwarm₁ hready₁
  have hal : s.vm.Alike vm₁ := hwarm₁.alike
  obtain ⟨kA₁, hkA₁, heA⟩ := hal.2.2 _ _ hkA
  obtain ⟨kC₁, hkC₁, heC⟩ := hal.2.2 _ _ hkC
  have hkindA₁ : kA₁.kind = .array cI' (.array .int) := by rw [heA]; exact hkindA
  have hkindC₁ : kC₁.kind = .array ce .int := by rw [heC]; exact hkindC
  have X₁ := X.noted hwarm₁
  obtain ⟨hr1, hr2⟩ := X.roomAbove hcells hslots
  obtain ⟨L, hL, XF⟩ := mz_st X₁ cA cI' 8
  obtain ⟨f1, f2, -, -⟩ := mz_f (T.setVm vm₁) cA cI' 8
  obtain ⟨t, a1, b1⟩ := kk (mz (T.setVm vm₁) cA cI' T.heap.size 8).heap L cA cI' hL hnameA hcI f1 f2 (fun j hj => mz_in (T.setVm vm₁) cA cI' 8 j hj) (fun q hq => mz_old (T.setVm vm₁) cA cI' hq 8) _ rfl XF
  refine ⟨t, ?_, b1⟩
  have hl : ¬ 8 > e.platform.arrayLengthLimit := by rw [Launch.admits_arrayLengthLimit X.admits]; omega
  have hh : ¬ 8 * 4 > e.platform.maxHeapBytes := by rw [Launch.admits_maxHeapBytes X.admits]; omega
  jvm_step X.here [hexec, hdg]
  simp only [multianewarray.sem, wp_bind', W.resolveClassAt_links (State.method?_setTop (F0 m pc ls (.int 8 :: .int 8 :: rest)) X.here.top) hg₁]
  rw [W.popN, if_neg (by decide)]
  refine ⟨F0 m pc ls (.int 8 :: .int 8 :: rest), State.topJava?_setTop' (s := T.setVm vm₁) _ X.here.top, [.int 8, .int 8], rest, rfl, rfl, ?_⟩
  simp only [List.mapM_cons, List.mapM_nil, wp_bind', wp_pure']
  refine mz_make (k := kA₁) (kc := kC₁) (ce := ce) hkA₁ hkindA₁ hkC₁ hkindC₁ hl hh (by show T.heap.size + 9 ≤ _; omega) (by show T.slotsUsed + 72 ≤ _; omega) (fun d' acts' => ?_)
  have eS : ((T.setTop (F0 m pc ls (.int 8 :: .int 8 :: rest))).setVm vm₁).setTop { F0 m pc ls (.int 8 :: .int 8 :: rest) with stack := rest } = (T.setVm vm₁).setTop { F0 m pc ls (.int 8 :: .int 8 :: rest) with stack := rest } := by
    show ((T.setVm vm₁).setTop _).setTop _ = _
    rw [State.setTop_setTop]
  have hT2 := mz_top (T.setVm vm₁) { F0 m pc ls (.int 8 :: .int 8 :: rest) with stack := rest } cA cI' 8
  rw [eS]
  simp only [State.heap_setTop]
  rw [hT2]
  simp only [wp_bind', W.mark, W.pushRef, State.topJava?_setTop' _ XF.here.top, Option.some.injEq, exists_eq_left', State.setTop_setTop, State.heap_setTop]
  intro acts
  simp [jvm, XF.here.top]
  exact a1
end MR
section MN
variable {p : Program} {l : Launch} {e : Env} {R : Room} {s : State} {m : MethodId} {args : Array Value} {below : List Frame} {meth : Method} {c : Code} {H : Heap} {locs : List Loc} {cells slots : Nat} {Q : State → Prop}
variable {cc : ByteArray} {pc : Nat} {ls : Array Slot} {rest : List Value} {dC : Nat → ClassId} {dI : Nat → Nat → Nat} {base : Nat} {cy : Nat → ClassId} {r : RR} {v : VV} {n : Nat} {H0 : Heap}
theorem w_mna (hx : p.tables.exec = Jvm.exec) (hb : c.code = cc) {own : String} {index : Nat} (hown : s.vm.findClass own = some m.cls) (hclink : (Cond.classLink own index ("[" ++ (FieldType.array .int).toString)).before args s = true) (hover : (Cond.arrayOver (.array .int)).before args s = true) (harr : (Cond.arrayClass .int).before args s = true) (hK : va_K (dC, dI) vwCl (tyL cy) s) (hP : va_P (dC, dI) vwCl (Wd base cy r v n) H) (hz : H.size = base + n) (hS : va_S (fun q => base ≤ q) H0 H locs) (hZ : Zr n v r) (hO : isO 16 n) (hsz : sz n = 8) (hI : ∀ j, j < 8 → isO 11 (n + 1 + j) ∧ sz (n + 1 + j) = 8) (hcells : cells + 9 ≤ R.cells) (hslots : slots + 72 ≤ R.slots) (hdg : decode cc pc = .ok (.multianewarray index 2, 4))
    (kk : ∀ (r1 : RR) (H1 : Heap) (locs1 : List Loc), r1 = up1 r n (rf n) → va_P (dC, dI) vwCl (Wd base cy r1 v (n + 9)) H1 → H1.size = base + (n + 9) → va_S (fun q => base ≤ q) H0 H1 locs1 → Zr (n + 9) v r1 → W p l e R s m args below meth c H1 locs1 (cells + 9) (slots + 72) Q (F0 m (pc + 4) ls (.ref (base + n) :: rest))) : W p l e R s m args below meth c H locs cells slots Q (F0 m pc ls (.int 8 :: .int 8 :: rest)) := by
  refine W.mna8 hx hb hown hclink hover harr hcells hslots hdg (fun H1 L cA cI hL fA fI z1 e1 e2 o1 => ?_)
  have hq0 : (tyL cy)[0]? = some (cy 11, .int) := rfl
  have hq5 : (tyL cy)[5]? = some (cy 16, .array .int) := rfl
  have eI : cI = cy 11 := Option.some.inj (fI.symm.trans (hK.2 0 _ hq0).2)
  have eA : cA = cy 16 := Option.some.inj (fA.symm.trans (hK.2 5 _ hq5).2)
  subst eI; subst eA
  rw [hz] at e1 e2 o1 z1
  have hrf : ∀ j, rf n j = if j < 8 then some (n + 1 + j) else none := fun j => by simp [rf, hO.2]
  have eg := kk (up1 r n (rf n)) H1 (locs ++ L) rfl ?_ (by rw [z1]; omega) ⟨Nat.le_trans hS.1 (by omega), fun x h1 h2 => (o1 x (by have := hS.1; omega)).trans (hS.2.1 x h1 h2), fun q hq => ?_⟩ (fun a ha => ⟨(hZ a (by omega)).1, ?_⟩)
  · rw [hz]; exact eg
  · intro k q hk
    obtain ⟨hk1, rfl⟩ := Wd_in hk
    by_cases h1 : k < n
    · have h2 := hP k _ (Wd_at h1)
      rw [ce_off (r' := r) (v' := v) (by funext b; simp [up1, show k ≠ n by omega]) rfl]
      exact h2.kept (o1 _ (by show base + k < _; omega))
    · by_cases h2 : k = n
      · subst h2
        rw [ce_ref hO.2 (by decide), hsz]
        show H1[base + k]? = some (vp_cell _ _)
        rw [vp_cell_q, e1]
        congr 2
        funext j
        congr 1
        simp only [up1, if_true, hrf]
        by_cases hj : j < 8
        · simp [hj]; omega
        · simp [hj]
      · obtain ⟨j, hj, rfl⟩ : ∃ j, j < 8 ∧ k = n + 1 + j := ⟨k - (n + 1), by omega, by omega⟩
        rw [ce_int (hI j hj).1.2 (by decide) (by decide), (hI j hj).2]
        show H1[base + (n + 1 + j)]? = some (vp_cell _ _)
        rw [vp_cell_i, show base + (n + 1 + j) = base + n + 1 + j by omega, e2 j hj, (hZ (n + 1 + j) (by omega)).1]
        rfl
  · rcases List.mem_append.mp hq with h | h
    · exact hS.2.2 q h
    · rw [hL q h, hz]; exact Nat.le_add_right _ _
  · rw [show up1 r n (rf n) a = r a by funext b; simp [up1, show a ≠ n by omega]]
    exact (hZ a (by omega)).2
end MN
