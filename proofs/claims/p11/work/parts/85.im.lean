/-! what holds of the reference between any two of its calls -/
def upG (g : Nat → Int → Int) (a : Nat) (f : Int → Int) : Nat → Int → Int := fun b => if b = a then f else g b
theorem upG_s {g : Nat → Int → Int} {a : Nat} {f : Int → Int} : upG g a f a = f := by simp [upG]
theorem upG_n {g : Nat → Int → Int} {a b : Nat} {f : Int → Int} (h : b ≠ a) : upG g a f b = g b := by simp [upG, h]
abbrev EF (e f : Nat) : Prop := (e = 0 ∧ f = 1) ∨ (e = 1 ∧ f = 0)
def lv1 (x : Int) : Int := if (208 ≤ x ∧ x ≤ 214) ∨ x = 240 ∨ x = 16 ∨ x = 128 then 1 else 0
def lv2 (x : Int) : Int := if 224 ≤ x ∧ x ≤ 230 then 1 else 0
def ck (x : Int) : Prop := x < 128 ∨ (208 ≤ x ∧ x ≤ 214) ∨ x = 240
/-- of a call or an answer from S: where it says it is from -/
def uFrom (g : Nat → Int → Int) (S : Nat) (rs f4 f5 s : Int) : Prop := ∃ m, 1 ≤ m ∧ m ≤ rs ∧ nr f4 f5 m ∧ (m = rs → g S (s - 1) = 0 ∧ g (S + 2) (s - 1) = 0)
def uRec (g : Nat → Int → Int) (i : Nat) (f4 s : Int) : Prop := ∃ r, nb f4 (r % 128) ∧ FR (g i) r s
def uDat (g : Nat → Int → Int) (i : Nat) (rr f2 f3 f4 s : Int) : Prop := ∃ a l m, (l = 0 ∨ l = 128) ∧ nb f4 (a % 128 + l) ∧ 1 ≤ m ∧ m ≤ rr ∧ nr f2 f3 m ∧ FD (g i) (g (8 + i) 0) a s (m = rr)
/-- a unit from S to R, of the bytes f -/
def UOK (g : Nat → Int → Int) (R S : Nat) (rr rs : Int) (f : Nat → Int) (z s : Int) : Prop :=
  (224 ≤ f 1 ∧ f 1 ≤ 230 ∧ f 0 = 10 ∧ z = 11 ∧ uFrom g S rs (f 4) (f 5) s) ∨
  (208 ≤ f 1 ∧ f 1 ≤ 214 ∧ f 0 = 10 ∧ z = 11 ∧ uFrom g S rs (f 4) (f 5) s) ∨
  (96 ≤ f 1 ∧ f 1 ≤ 102 ∧ f 0 = 8 ∧ z = 9 ∧ uRec g S (f 4) s) ∨
  (f 1 = 32 ∧ f 0 = 8 ∧ z = 9 ∧ uRec g (S + 2) (f 4) s) ∨
  (f 1 = 240 ∧ f 0 = 8 ∧ 9 ≤ z ∧ z ≤ 17 ∧ uDat g R rr (f 2) (f 3) (f 4) s) ∨
  (f 1 = 16 ∧ f 0 = 8 ∧ z = 10 ∧ uDat g (R + 2) rr (f 2) (f 3) (f 4) s) ∨
  (f 1 = 128 ∧ f 0 = 10 ∧ z = 11) ∨ (f 1 = 192 ∧ f 0 = 9 ∧ z = 10)
theorem UOK.mp {g g' : Nat → Int → Int} {R S : Nat} {rr rs rr' rs' : Int} {f f' : Nat → Int} {z s : Int} (h : UOK g R S rr rs f z s) (h0 : f' 0 = f 0) (h1 : f' 1 = f 1) (hF : ¬ ck (f 1) ∨ ck (f 1) → uFrom g S rs (f 4) (f 5) s → uFrom g' S rs' (f' 4) (f' 5) s) (hR : ck (f 1) → uRec g S (f 4) s → uRec g' S (f' 4) s) (hR2 : ck (f 1) → uRec g (S + 2) (f 4) s → uRec g' (S + 2) (f' 4) s) (hD : ck (f 1) → uDat g R rr (f 2) (f 3) (f 4) s → uDat g' R rr' (f' 2) (f' 3) (f' 4) s) (hD2 : ck (f 1) → uDat g (R + 2) rr (f 2) (f 3) (f 4) s → uDat g' (R + 2) rr' (f' 2) (f' 3) (f' 4) s) : UOK g' R S rr' rs' f' z s := by
  unfold UOK at h ⊢
  rw [h0, h1]
  rcases h with h | h | h | h | h | h | h | h
  · exact Or.inl ⟨h.1, h.2.1, h.2.2.1, h.2.2.2.1, hF (Classical.em _).symm h.2.2.2.2⟩
  · exact Or.inr (Or.inl ⟨h.1, h.2.1, h.2.2.1, h.2.2.2.1, hF (Classical.em _).symm h.2.2.2.2⟩)
  · exact Or.inr (Or.inr (Or.inl ⟨h.1, h.2.1, h.2.2.1, h.2.2.2.1, hR (by unfold ck; omega) h.2.2.2.2⟩))
  · exact Or.inr (Or.inr (Or.inr (Or.inl ⟨h.1, h.2.1, h.2.2.1, hR2 (by unfold ck; omega) h.2.2.2⟩)))
  · exact Or.inr (Or.inr (Or.inr (Or.inr (Or.inl ⟨h.1, h.2.1, h.2.2.1, h.2.2.2.1, hD (by unfold ck; omega) h.2.2.2.2⟩))))
  · exact Or.inr (Or.inr (Or.inr (Or.inr (Or.inr (Or.inl ⟨h.1, h.2.1, h.2.2.1, hD2 (by unfold ck; omega) h.2.2.2⟩)))))
  · exact Or.inr (Or.inr (Or.inr (Or.inr (Or.inr (Or.inr (Or.inl h))))))
  · exact Or.inr (Or.inr (Or.inr (Or.inr (Or.inr (Or.inr (Or.inr h))))))
theorem UOK.size {g : Nat → Int → Int} {R S : Nat} {rr rs : Int} {f : Nat → Int} {z s : Int} (h : UOK g R S rr rs f z s) : 9 ≤ z ∧ z ≤ 17 ∧ f 0 ≠ 0 ∧ f 0 ≠ 255 ∧ f 1 ≠ 0 ∧ f 1 ≠ 255 := by
  unfold UOK at h
  omega
/-- the unit number u, as it lies in its place -/
def FU (g c : Nat → Int → Int) (u : Nat) (v : VV) : Prop := ∃ R S : Nat, EF R S ∧ (v 870 (u % 4096)).toInt = (R : Int) ∧ UOK g R S (v 818 R).toInt (v 818 S).toInt (fun i => (v 868 (20 * (u % 4096) + i)).toInt) (v 869 (u % 4096)).toInt (v 871 (u % 4096)).toInt ∧ sumL (fun i => v 868 (20 * (u % 4096) + i)) (v 869 (u % 4096)).toInt.toNat % 255 = 0 ∧ (c 0 ((v 871 (u % 4096)).toInt - 1) ≤ (u : Int) ∧ (u : Int) < c 0 (v 871 (u % 4096)).toInt) ∧ (c 1 ((u : Int) + 1) = c 1 (u : Int) + lv1 (v 868 (20 * (u % 4096) + 1)).toInt ∧ c 2 ((u : Int) + 1) = c 2 (u : Int) + lv2 (v 868 (20 * (u % 4096) + 1)).toInt) ∧ (ck (v 868 (20 * (u % 4096) + 1)).toInt → (v 817 S).toInt ≠ 0 ∧ (v 817 S).toInt ≠ 1 ∧ ((v 817 S).toInt = 4 → (v 871 (u % 4096)).toInt ≤ (v 822 S).toInt))
def iF (g c : Nat → Int → Int) (v : VV) : Prop := ∀ u : Nat, (v 816 55).toInt ≤ (u : Int) → (u : Int) < (v 816 54).toInt → FU g c u v
def iSc (v : VV) : Prop := (0 ≤ (v 816 0).toInt ∧ (v 816 0).toInt ≤ 3000) ∧ (0 ≤ (v 816 48).toInt ∧ (v 816 48).toInt ≤ 64) ∧ (0 ≤ (v 816 49).toInt ∧ (v 816 49).toInt ≤ 60 ∧ ∀ k, (v 869 k).toInt ≤ 20)
def iBy (v : VV) : Prop := ∀ k, byt (v 828 k) ∧ byt (v 837 k) ∧ byt (v 842 k) ∧ byt (v 863 k) ∧ byt (v 868 k) ∧ byt (v 873 k)
def iFa (v : VV) : Prop := ∀ k : Nat, (k : Int) < (v 816 49).toInt → (v 864 k).toInt = 4 → 0 ≤ (v 866 k).toInt ∧ 1 ≤ (v 867 k).toInt ∧ (v 867 k).toInt ≤ 255
/-- the sender's side of e, to f -/
def iS (g : Nat → Int → Int) (e f : Nat) (v : VV) : Prop := (0 ≤ (v 831 e).toInt ∧ (v 831 e).toInt ≤ (v 830 e).toInt ∧ (v 830 e).toInt ≤ 40) ∧ ((v 831 e).toInt = g (8 + f) 0 - g (12 + f) 0 ∧ (v 838 e).toInt = g (8 + f) 0 % 128 ∧ (v 839 e).toInt = g (12 + f) 0 % 128) ∧ (0 ≤ (v 840 e).toInt ∧ (v 840 e).toInt ≤ 6) ∧ (∀ k : Nat, (k : Int) < (v 830 e).toInt → 0 ≤ (v 832 (40 * e + k)).toInt ∧ (v 832 (40 * e + k)).toInt ≤ 8) ∧ (∀ k : Nat, (k : Int) < (v 831 e).toInt → (v 834 (40 * e + k)).toInt = (g (12 + f) 0 + k) % 128) ∧ (0 ≤ (v 841 e).toInt ∧ (v 841 e).toInt ≤ 8) ∧ (v 843 e).toInt = g (12 + (f + 2)) 0 % 128 ∧ (0 ≤ (v 844 e).toInt ∧ (v 844 e).toInt ≤ 4) ∧ g (8 + (f + 2)) 0 = g (12 + (f + 2)) 0 + (if (v 844 e).toInt = 0 then 0 else 1) ∧ ((v 841 e).toInt = 0 → (v 844 e).toInt = 0)
/-- the receiver's side of e -/
def iR (g : Nat → Int → Int) (e : Nat) (v : VV) : Prop := ((v 846 e).toInt = g e (v 816 0).toInt % 128 ∧ (v 847 e).toInt = g (e + 2) (v 816 0).toInt % 128) ∧ (∀ k : Nat, k < 128 → (v 848 (128 * e + k)).toInt ≤ 8 ∧ (0 ≤ (v 848 (128 * e + k)).toInt → g e (v 816 0).toInt + ((k : Int) - g e (v 816 0).toInt) % 128 ≤ g (4 + e) 0)) ∧ (0 ≤ (v 851 e).toInt ∧ (v 851 e).toInt ≤ 8 * (v 852 e).toInt ∧ 0 ≤ (v 852 e).toInt ∧ (v 852 e).toInt ≤ g e (v 816 0).toInt) ∧ (0 ≤ (v 854 e).toInt ∧ (v 854 e).toInt ≤ 12) ∧ (∀ m : Nat, (m : Int) < (v 854 e).toInt → 1 ≤ (v 856 (64 * e + m)).toInt ∧ (v 856 (64 * e + m)).toInt ≤ 512 ∧ 0 ≤ (v 855 (64 * e + m)).toInt ∧ (v 855 (64 * e + m)).toInt ≤ 8 * (v 856 (64 * e + m)).toInt) ∧ (v 858 e).toInt = sumL (fun m => v 855 (64 * e + m)) (v 854 e).toInt.toNat ∧ sumL (fun m => v 856 (64 * e + m)) (v 854 e).toInt.toNat ≤ 520 ∧ (v 859 e).toInt ≤ 4096 ∧ (0 ≤ (v 861 e).toInt ∧ (v 861 e).toInt ≤ g (e + 2) (v 816 0).toInt)
/-- what waits to be sent again -/
def iW (g : Nat → Int → Int) (e : Nat) (v : VV) : Prop := (v 825 e).toInt ≠ 0 → (v 829 e).toInt = 11 ∧ (v 828 (20 * e)).toInt = 10 ∧ sumL (fun i => v 828 (20 * e + i)) 11 % 255 = 0 ∧ (((v 817 e).toInt = 1 ∧ 224 ≤ (v 828 (20 * e + 1)).toInt ∧ (v 828 (20 * e + 1)).toInt ≤ 230 ∧ (v 828 (20 * e + 4)).toInt = (v 818 e).toInt / 256 ∧ (v 828 (20 * e + 5)).toInt = (v 818 e).toInt % 256) ∨ ((v 817 e).toInt = 2 ∧ (v 820 e).toInt = 1 ∧ 208 ≤ (v 828 (20 * e + 1)).toInt ∧ (v 828 (20 * e + 1)).toInt ≤ 214 ∧ (v 828 (20 * e + 4)).toInt = (v 818 e).toInt / 256 ∧ (v 828 (20 * e + 5)).toInt = (v 818 e).toInt % 256 ∧ g e (v 816 0).toInt = 0 ∧ g (e + 2) (v 816 0).toInt = 0) ∨ ((v 817 e).toInt = 3 ∧ (v 828 (20 * e + 1)).toInt = 128))
/-- the connection of e, with f -/
def iC (g : Nat → Int → Int) (M κ : Int) (e f : Nat) (v : VV) : Prop := (0 ≤ (v 817 e).toInt ∧ (v 817 e).toInt ≤ 4) ∧ (0 ≤ (v 819 e).toInt ∧ (v 819 e).toInt ≤ 65535) ∧ (0 ≤ (v 818 e).toInt ∧ ((v 817 e).toInt ≠ 0 → 1 ≤ (v 818 e).toInt)) ∧ ((v 817 e).toInt = 2 → 1 ≤ g (16 + e) 0 ∧ g (16 + e) 0 ≤ (v 818 f).toInt ∧ nr ((v 819 e).toInt / 256) ((v 819 e).toInt % 256) (g (16 + e) 0)) ∧ ((v 817 e).toInt = 1 → g e (v 816 0).toInt = 0 ∧ g (e + 2) (v 816 0).toInt = 0 ∧ g (8 + f) 0 = 0 ∧ g (8 + (f + 2)) 0 = 0) ∧ (0 ≤ (v 822 e).toInt ∧ (v 822 e).toInt ≤ (v 816 0).toInt) ∧ iW g e v ∧ (((v 817 e).toInt = 0 → 24 * (v 818 e).toInt ≤ M) ∧ ((v 817 e).toInt = 1 → 24 * (v 818 e).toInt ≤ M + κ) ∧ ((v 817 e).toInt = 2 ∨ (v 817 e).toInt = 3 → 24 * (v 818 e).toInt ≤ M + 24) ∧ ((v 817 e).toInt = 4 → 24 * (v 818 e).toInt ≤ M + 24 - 2 * ((v 816 0).toInt - (v 822 e).toInt)))
/-- the stream i from S to R -/
def iT (g c : Nat → Int → Int) (i R S : Nat) (v : VV) : Prop := St (v 816 0).toInt (g i) (g (4 + i) 0) (g (8 + i) 0) (g (12 + i) 0) ((v 817 S).toInt = 2 ∧ g (16 + S) 0 = (v 818 R).toInt) ∧ g (8 + i) 0 ≤ c 4 (v 816 0).toInt ∧ g (4 + i) 0 ≤ c 4 (v 816 0).toInt
def Ie (g c : Nat → Int → Int) (M κ : Int) (e f : Nat) (v : VV) : Prop := iS g e f v ∧ iR g e v ∧ iC g M κ e f v ∧ iT g c e e f v ∧ iT g c (e + 2) e f v
def bnk (v : VV) (e : Nat) : Int := (v 830 e).toInt - (v 831 e).toInt + (v 841 e).toInt - (if (v 844 e).toInt = 0 then 0 else 1)
/-- the counts: how many units went at each hour, by kinds -/
def iN (c : Nat → Int → Int) (d0 d1 d2 L om : Int) (v : VV) : Prop := ((∀ a b, a ≤ b → c 0 a ≤ c 0 b) ∧ (∀ a, (v 816 0).toInt ≤ a → c 0 a = (v 816 54).toInt) ∧ (∀ a, 0 ≤ c 0 a) ∧ (∀ a b, a ≤ b → c 1 a ≤ c 1 b ∧ c 2 a ≤ c 2 b)) ∧ ((∀ a b, a ≤ b → c 3 a ≤ c 3 b) ∧ (∀ a b, a ≤ b → c 4 a ≤ c 4 b) ∧ (∀ a b, a ≤ b → c 5 a ≤ c 5 b) ∧ (∀ a, 0 ≤ c 3 a ∧ 0 ≤ c 4 a ∧ 0 ≤ c 5 a) ∧ (∀ a, (v 816 0).toInt ≤ a → c 3 a = c 3 (v 816 0).toInt ∧ c 4 a = c 4 (v 816 0).toInt ∧ c 5 a = c 5 (v 816 0).toInt)) ∧ (∀ a, a ≤ (v 816 0).toInt → c 2 (c 0 a) - c 2 (c 0 (a - 1)) + (if a = (v 816 0).toInt then d2 else 0) ≤ 2 + c 5 a - c 5 (a - 1)) ∧ (∀ a, a ≤ (v 816 0).toInt → c 1 (c 0 a) - c 1 (c 0 (a - 1)) + (if a = (v 816 0).toInt then d1 else 0) ≤ c 2 (c 0 (a - 2)) - c 2 (c 0 (a - 3)) + 78 + c 4 a - c 4 (a - 1)) ∧ (∀ a, a ≤ (v 816 0).toInt → (c 0 a - c 1 (c 0 a) - c 2 (c 0 a)) - (c 0 (a - 1) - c 1 (c 0 (a - 1)) - c 2 (c 0 (a - 1))) + (if a = (v 816 0).toInt then d0 else 0) ≤ c 1 (c 0 (a - 2)) - c 1 (c 0 (a - 3)) + 62 + c 3 a - c 3 (a - 1)) ∧ (0 ≤ d0 ∧ 0 ≤ d1 ∧ 0 ≤ d2) ∧ (c 3 (v 816 0).toInt + c 4 (v 816 0).toInt + c 5 (v 816 0).toInt + bnk v 0 + bnk v 1 + ((v 816 48).toInt + 7) / 8 ≤ L ∧ L ≤ 512) ∧ (c 0 ((v 816 0).toInt - om) ≤ (v 816 55).toInt ∧ (v 816 55).toInt ≤ (v 816 54).toInt ∧ 0 ≤ (v 816 55).toInt ∧ c 0 ((v 816 0).toInt - 1) ≤ 4096 * (v 816 0).toInt)
def Im (g c : Nat → Int → Int) (d0 d1 d2 L M κ om : Int) (v : VV) : Prop := (iSc v ∧ iBy v ∧ iFa v ∧ M ≤ 12144) ∧ (∀ e f, EF e f → Ie g c M κ e f v) ∧ iF g c v ∧ iN c d0 d1 d2 L om v
