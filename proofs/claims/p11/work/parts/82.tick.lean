/-! the class's tick: the hour moves -/
def tka (n p : Int32) : Int32 := if p < 1 ∨ ¬ p ≤ 20 then (-1) else if n + p ≤ 3000 then n + p else (-3)
def tkn (n p : Int32) : Int32 := if p < 1 ∨ ¬ p ≤ 20 then n else if n + p ≤ 3000 then n + p else n
theorem J_now {n x : Int32} {w v : VV} (h : Jc n w v) : Jc x w (up2 v 1 10 x) := by
  refine ⟨fun a ha => (up2_of v 1 10 x (by omega)).trans (h.1 a ha), up2_s v 1 10 x, fun o ho he => ?_⟩
  refine ok1_congr rfl ho (fun k hk => ?_) (fun a hd => up2_of v 1 10 x (by have := dep_lt ho hd; omega)) (h.2.2 o ho he)
  by_cases e : o = 1
  · subst e
    refine up2_k v 1 10 x (fun e => ?_)
    subst e
    revert hk
    decide
  · exact up2_o v 1 10 x k e
theorem sl_X9_tick {n0 p1 : Int32} {w : VV} {Q : Int32 → VV → Prop} (k : ∀ x v1, x = n0 + p1 → Jc x w v1 → Q x v1) (h0 : 0 ≤ n0.toInt) (h1 : n0.toInt + p1.toInt ≤ 3000) : ∀ (m : Nat) (a2 : Int32) (v : VV) (n : Int32), Jc n w v → n.toInt = n0.toInt + a2.toInt → 0 ≤ a2.toInt → a2.toInt ≤ p1.toInt → p1.toInt - a2.toInt < (m : Int) → b_X9_tick_33 p1 Q m p1 a2 v := by
  intro m
  induction m with
  | zero =>
    intro a2 v n J hn ha hb hm
    exfalso
    omega
  | succ m ih =>
    intro a2 v n J hn ha hb hm
    refine ⟨fun c => ?_, fun c => ?_⟩
    · intro x ex
      have c := i_le c
      have e1 : x = n := ex.trans J.2.1
      have e2 : x = n0 + p1 := i_of (by rw [i_add (x := n0 + p1) rfl (by omega) (by omega), e1]; omega)
      exact k x v e2 (by rw [e1]; exact J)
    · intro x43 e43 x47 e47 v1 hv1
      have c := i_nle c
      have e1 : x43 = n := e43.trans J.2.1
      have i1 : Int32.toInt 1 = 1 := by decide
      rw [e1] at e47
      have i47 := i_add e47 (by omega) (by omega)
      have J1 : Jc x47 w v1 := by rw [hv1]; exact J_now J
      refine s_X9_deliver J1 0 (fun v2 J2 => s_X9_deliver J2 1 (fun v3 J3 => s_X2_forgetArrived J3 (fun v4 J4 => ?_)))
      intro t73 e73
      refine s_X0_passTick J4 t73 (by rw [e73]; exact (arE (i := Int32.toNatClampNeg 0) (by decide)).2) (fun v5 J5 => ?_)
      intro t82 e82
      refine s_X0_passTick J5 t82 (by rw [e82]; exact (arE (i := Int32.toNatClampNeg 1) (by decide)).2) (fun v6 J6 => ?_)
      intro x86 e86
      have i86 := i_add e86 (by omega) (by omega)
      exact ih x86 v6 x47 J6 (by omega) (by omega) (by omega) (by omega)
theorem s_X9_tick {n : Int32} {w v : VV} (J0 : Jc n w v) (hn : 0 ≤ n.toInt ∧ n.toInt ≤ 3000) (p1 : Int32) {Q : Int32 → VV → Prop} (k : ∀ x v1, Jc (tkn n p1) w v1 → x = tka n p1 → Q x v1) : w_X9_tick p1 v Q := by
  have l1 : Int32.toInt 1 = 1 := by decide
  have l20 : Int32.toInt 20 = 20 := by decide
  have l3000 : Int32.toInt 3000 = 3000 := by decide
  have l0 : Int32.toInt 0 = 0 := by decide
  unfold w_X9_tick
  refine ⟨fun c => ?_, fun c => ⟨fun c2 => ?_, fun c2 => ?_⟩⟩
  · unfold b_X9_tick_11
    exact k _ v (by unfold tkn; rw [if_pos (Or.inl c)]; exact J0) (by unfold tka; rw [if_pos (Or.inl c)])
  · intro x17 e17 x21 e21
    have e1 : x17 = n := e17.trans J0.2.1
    have i1 := i_nlt c
    have i2 := i_le c2
    rw [e1] at e21
    have i21 := i_add e21 (by omega) (by omega)
    have hc : ¬ (p1 < 1 ∨ ¬ p1 ≤ 20) := fun q => q.elim c (fun q => q c2)
    refine ⟨fun c3 => ?_, fun c3 => ?_⟩
    · have i3 := i_le c3
      rw [e21] at c3
      refine ⟨100, sl_X9_tick (n0 := n) (p1 := p1) (fun x v1 ex J1 => k x v1 ?_ ?_) hn.1 (by omega) 100 0 v n J0 (by omega) (by omega) (by omega) (by omega)⟩
      · unfold tkn
        rw [if_neg hc, if_pos c3, ← ex]
        exact J1
      · unfold tka
        rw [if_neg hc, if_pos c3, ← ex]
    · rw [e21] at c3
      exact k _ v (by unfold tkn; rw [if_neg hc, if_neg c3]; exact J0) (by unfold tka; rw [if_neg hc, if_neg c3])
  · unfold b_X9_tick_11
    exact k _ v (by unfold tkn; rw [if_pos (Or.inr c2)]; exact J0) (by unfold tka; rw [if_pos (Or.inr c2)])
