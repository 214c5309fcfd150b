/-! one stream of numbered units, by ints alone: t the hour, H what was expected at each hour, KB the last number that was kept,
N the next number of the sender, A what the sender was told -/
def St (t : Int) (H : Int → Int) (KB N A : Int) (lk : Prop) : Prop := (∀ a b, a ≤ b → H a ≤ H b) ∧ (∀ a, t ≤ a → H a = H t) ∧ (∀ a, 0 ≤ H a ∧ H a ≤ H (a - 4) + 7) ∧ (H t ≤ KB + 1 ∧ KB ≤ H (t - 4) + 6) ∧ (0 ≤ A ∧ A ≤ N ∧ N ≤ A + 6) ∧ (lk → A ≤ H (t - 2) ∧ KB ≤ max N 20)
def upH (H : Int → Int) (t x : Int) : Int → Int := fun a => if t ≤ a then x else H a
theorem upH_lt {H : Int → Int} {t x a : Int} (h : a < t) : upH H t x a = H a := by unfold upH; rw [if_neg (by omega)]
theorem upH_ge {H : Int → Int} {t x a : Int} (h : t ≤ a) : upH H t x a = x := by unfold upH; rw [if_pos h]
section ST
variable {t : Int} {H : Int → Int} {KB N A : Int} {lk : Prop}
theorem St.tick (h : St t H KB N A lk) : St (t + 1) H KB N A lk := by
  obtain ⟨h1, h2, h3, h4, h5, h6⟩ := h
  have e1 := h2 (t + 1) (by omega)
  have e2 := h1 (t - 4) (t + 1 - 4) (by omega)
  have e3 := h1 (t - 2) (t + 1 - 2) (by omega)
  refine ⟨h1, fun a ha => ?_, h3, by omega, h5, fun q => ?_⟩
  · rw [h2 a (by omega), e1]
  · have := h6 q
    omega
theorem St.grow {E' KB' : Int} (h : St t H KB N A lk) (hE : H t ≤ E') (hK : KB ≤ KB') (hEK : E' ≤ KB' + 1) (hK2 : KB' ≤ H (t - 4) + 6) (hl : lk → KB' ≤ max N 20) : St t (upH H t E') KB' N A lk := by
  obtain ⟨h1, h2, h3, h4, h5, h6⟩ := h
  have g4 : upH H t E' (t - 4) = H (t - 4) := upH_lt (by omega)
  have g2 : upH H t E' (t - 2) = H (t - 2) := upH_lt (by omega)
  have g0 : upH H t E' t = E' := upH_ge (by omega)
  refine ⟨fun a b hab => ?_, fun a ha => ?_, fun a => ?_, by rw [g0, g4]; omega, h5, fun q => ?_⟩
  · by_cases ha : t ≤ a
    · rw [upH_ge ha, upH_ge (by omega)]; omega
    · rw [upH_lt (by omega)]
      by_cases hb : t ≤ b
      · rw [upH_ge hb]
        have := h1 a t (by omega)
        omega
      · rw [upH_lt (by omega)]
        exact h1 a b hab
  · rw [upH_ge ha, g0]
  · have b0 := h3 t
    by_cases ha : t ≤ a
    · rw [upH_ge ha]
      by_cases hb : t ≤ a - 4
      · rw [upH_ge hb]; omega
      · rw [upH_lt (by omega)]
        have := h1 (t - 4) (a - 4) (by omega)
        omega
    · rw [upH_lt (by omega), upH_lt (by omega)]
      exact h3 a
  · rw [g2]
    exact ⟨(h6 q).1, hl q⟩
theorem St.first (h : St t H KB N A lk) (hN : N + 1 ≤ A + 6) : St t H KB (N + 1) A lk := by
  obtain ⟨h1, h2, h3, h4, h5, h6⟩ := h
  exact ⟨h1, h2, h3, h4, by omega, fun q => by have := h6 q; omega⟩
theorem St.ack {A' : Int} (h : St t H KB N A lk) (h1 : A ≤ A') (h2 : A' ≤ N) (hl : lk → A' ≤ H (t - 2)) : St t H KB N A' lk := by
  obtain ⟨g1, g2, g3, g4, g5, g6⟩ := h
  exact ⟨g1, g2, g3, g4, by omega, fun q => ⟨hl q, (g6 q).2⟩⟩
theorem St.wk {lk' : Prop} (h : St t H KB N A lk) (hl : lk' → lk) : St t H KB N A lk' := ⟨h.1, h.2.1, h.2.2.1, h.2.2.2.1, h.2.2.2.2.1, fun q => h.2.2.2.2.2 (hl q)⟩
theorem St.link {lk' : Prop} (h : St t H KB 0 0 lk) (hk : lk' → KB ≤ 20) : St t H KB 0 0 lk' := ⟨h.1, h.2.1, h.2.2.1, h.2.2.2.1, h.2.2.2.2.1, fun q => ⟨(h.2.2.1 (t - 2)).1, by have := hk q; omega⟩⟩
theorem St.new (h : St t H KB N A lk) : St t H KB 0 0 False := ⟨h.1, h.2.1, h.2.2.1, h.2.2.2.1, by omega, fun q => q.elim⟩
theorem St.zero (h : St t H KB N A lk) : St t (fun _ => 0) (-1) N A False := ⟨fun _ _ _ => Int.le_refl 0, fun _ _ => rfl, fun _ => ⟨Int.le_refl 0, show (0 : Int) ≤ 0 + 7 by decide⟩, ⟨show (0 : Int) ≤ -1 + 1 by decide, show (-1 : Int) ≤ 0 + 6 by decide⟩, h.2.2.2.2.1, fun q => q.elim⟩
theorem St.init : St 0 (fun _ => 0) (-1) 0 0 False := ⟨fun _ _ _ => Int.le_refl 0, fun _ _ => rfl, fun _ => ⟨Int.le_refl 0, show (0 : Int) ≤ 0 + 7 by decide⟩, ⟨show (0 : Int) ≤ -1 + 1 by decide, show (-1 : Int) ≤ 0 + 6 by decide⟩, by omega, fun q => q.elim⟩
/-- over eight hours -/
theorem St.far (h : St t H KB N A lk) {s : Int} (hs : t - 8 ≤ s) : H t ≤ H (s - 1) + 21 := by
  have a1 := (h.2.2.1 t).2
  have a2 := (h.2.2.1 (t - 4)).2
  have a3 := (h.2.2.1 (t - 4 - 4)).2
  have a4 := h.1 (t - 4 - 4 - 4) (s - 1) (by omega)
  omega
theorem St.from0 (h : St t H KB N A lk) {s : Int} (hs : t - 8 ≤ s) (h0 : H (s - 1) = 0) : KB ≤ 20 := by
  have a2 := (h.2.2.1 (t - 4)).2
  have a3 := (h.2.2.1 (t - 4 - 4)).2
  have a4 := h.1 (t - 4 - 4 - 4) (s - 1) (by omega)
  have a5 := h.2.2.2.1
  omega
/-- a numbered unit that flies -/
def FD (H : Int → Int) (N a s : Int) (own : Prop) : Prop := 0 ≤ a ∧ a < N ∧ (own → a < H (s - 2) + 6 ∧ H (s - 1) ≤ a + 21)
/-- a receipt that flies -/
def FR (H : Int → Int) (r s : Int) : Prop := H (s - 1) ≤ r ∧ r ≤ H s
theorem St.fd {a : Int} {own : Prop} (h : St t H KB N A lk) (h1 : A ≤ a) (h2 : a < N) (ho : own → lk) : FD H N a t own := by
  obtain ⟨g1, g2, g3, g4, g5, g6⟩ := h
  refine ⟨by omega, h2, fun q => ?_⟩
  have := g6 (ho q)
  have := g1 (t - 1) t (by omega)
  omega
theorem St.fr (h : St t H KB N A lk) : FR H (H t) t := ⟨h.1 (t - 1) t (by omega), Int.le_refl _⟩
theorem FD.grow {a s E' : Int} {own : Prop} (h : FD H N a s own) (hs : s ≤ t) : FD (upH H t E') N a s own := ⟨h.1, h.2.1, fun q => by
  rw [upH_lt (by omega), upH_lt (by omega)]; exact h.2.2 q⟩
theorem FD.more {a s N' : Int} {own : Prop} (h : FD H N a s own) (hN : N ≤ N') : FD H N' a s own := ⟨h.1, by have := h.2.1; omega, h.2.2⟩
theorem FD.wk {a s : Int} {own own' : Prop} (h : FD H N a s own) (ho : own' → own) : FD H N a s own' := ⟨h.1, h.2.1, fun q => h.2.2 (ho q)⟩
theorem FR.grow {r s E' : Int} (h : FR H r s) (hs : s ≤ t) (hE : H t ≤ E') : FR (upH H t E') r s := by
  refine ⟨by rw [upH_lt (by omega)]; exact h.1, ?_⟩
  by_cases e : t ≤ s
  · rw [upH_ge e]
    have e2 : s = t := by omega
    have := h.2
    rw [e2] at this
    omega
  · rw [upH_lt (by omega)]; exact h.2
/-- a number that the window lets in is the unit's own, or its neighbour's -/
theorem St.take {a s d n m : Int} {own : Prop} (h : St t H KB N A lk) (hf : FD H N a s own) (ho : own) (hs1 : t - 8 ≤ s) (hs2 : s ≤ t - 2) (hd : -1 ≤ d ∧ d ≤ 1) (hn : n = (a + d) % 128) (hm : m = (n - H t) % 128) (hm6 : m < 6) : H t + m = a + d ∧ H t + m ≤ N ∧ H t + m ≤ H (t - 4) + 6 := by
  have f1 := hf.2.2 ho
  have f2 := hf.2.1
  have f3 := hf.1
  have e1 := h.far hs1
  have e2 := h.1 (s - 2) (t - 4) (by omega)
  have e3 := h.1 (t - 4) t (by omega)
  have e4 : H t + m = a + d := by omega
  omega
/-- a receipt that is let in tells what was expected two hours ago or before -/
theorem St.told {r s d n m : Int} (h : St t H KB N A lk) (hf : FR H r s) (hs1 : t - 8 ≤ s) (hs2 : s ≤ t - 2) (hd : d = 0 ∨ d = -1) (hn : n = (r + d) % 128) (hm : m = (n - A) % 128) (hm6 : m ≤ N - A) (hl : lk) : A + m ≤ H (t - 2) := by
  have f1 := hf.1
  have f2 := hf.2
  have e1 := h.far hs1
  have e2 := h.1 s (t - 2) hs2
  have e3 := h.1 (t - 2) t (by omega)
  obtain ⟨g1, g2, g3, g4, g5, g6⟩ := h
  have g7 := g6 hl
  have e4 : A + m = r + d := by omega
  omega
end ST
/-- bytes that a spoiled unit may show and still be good -/
def nb (x y : Int) : Prop := x = y ∨ (x = 0 ∧ y = 255) ∨ (x = 255 ∧ y = 0)
def nr (hi lo m : Int) : Prop := nb hi (m / 256) ∧ nb lo (m % 256)
theorem nb.tr {x y z : Int} (h1 : nb x y) (h2 : nb y z) : nb x z := by unfold nb at *; omega
theorem nb.rf {x : Int} : nb x x := Or.inl rfl
theorem nr_eq {hi lo m r : Int} (h : nr hi lo m) (e : 256 * hi + lo = r) (h1 : 1 ≤ m ∧ m ≤ 510) (h2 : 1 ≤ r ∧ r ≤ 510) : m = r := by
  unfold nr nb at h
  omega
theorem nb_num {x a l : Int} (h : nb x (a % 128 + l)) (hl : l = 0 ∨ l = 128) : ∃ d, (-1 ≤ d ∧ d ≤ 1) ∧ x % 128 = (a + d) % 128 := by
  unfold nb at h
  rcases h with h | h | h
  · exact ⟨0, by omega, by omega⟩
  · exact ⟨1, by omega, by omega⟩
  · exact ⟨-1, by omega, by omega⟩
theorem nb_rec {x r : Int} (h : nb x (r % 128)) : ∃ d, (d = 0 ∨ d = -1) ∧ x % 128 = (r + d) % 128 := by
  unfold nb at h
  rcases h with h | h | h
  · exact ⟨0, by omega, by omega⟩
  · exfalso; omega
  · exact ⟨-1, by omega, by omega⟩
/-- a byte changed by a mask, both sums good -/
theorem spoil_nb {b b' c : Int} (h1 : 0 ≤ b ∧ b ≤ 255) (h2 : 0 ≤ b' ∧ b' ≤ 255) (hc : c % 255 = 0) (hc' : (c + (b' - b)) % 255 = 0) : nb b' b := by
  unfold nb
  omega
