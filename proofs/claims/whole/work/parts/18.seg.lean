/-! rows changed between two places
-/
def seg (lo hi : Int) (ys xs : Int → Int) : Int → Int := fun j => if lo ≤ j ∧ j < hi then ys j else xs j
theorem seg_0 {lo : Int} {ys xs : Int → Int} : seg lo lo ys xs = xs := funext fun j => if_neg (by omega)
theorem seg_S {lo hi : Int} {ys xs : Int → Int} (h : lo ≤ hi) : iup (seg lo hi ys xs) hi (ys hi) = seg lo (hi + 1) ys xs := by
  funext j
  unfold iup seg
  by_cases hj : j = hi
  · rw [if_pos hj, if_pos (by omega), hj]
  · rw [if_neg hj]
    by_cases h2 : lo ≤ j ∧ j < hi
    · rw [if_pos h2, if_pos (by omega)]
    · rw [if_neg h2, if_neg (by omega)]
theorem seg_all {lo hi : Int} {ys xs : Int → Int} (h : ∀ j : Int, ¬ (lo ≤ j ∧ j < hi) → ys j = xs j) : seg lo hi ys xs = ys := funext fun j => by
  unfold seg
  by_cases hj : lo ≤ j ∧ j < hi
  · rw [if_pos hj]
  · rw [if_neg hj, h j hj]
theorem seg_in {lo hi : Int} {ys xs : Int → Int} {j : Int} (h : lo ≤ j ∧ j < hi) : seg lo hi ys xs j = ys j := if_pos h
theorem seg_out {lo hi : Int} {ys xs : Int → Int} {j : Int} (h : ¬ (lo ≤ j ∧ j < hi)) : seg lo hi ys xs j = xs j := if_neg h
theorem seg_sup {lo hi : Int} {ys xs : Int → Int} {N : Nat} (h : Sup xs N) (h0 : 0 ≤ lo) (h1 : hi ≤ N) : Sup (seg lo hi ys xs) N := fun j hj => by
  rw [seg_out (by omega)]; exact h j hj
theorem seg_red {p lo hi : Int} {ys xs : Int → Int} (h1 : Red p ys) (h2 : Red p xs) : Red p (seg lo hi ys xs) := fun j => by
  by_cases hj : lo ≤ j ∧ j < hi
  · rw [seg_in hj]; exact h1 j
  · rw [seg_out hj]; exact h2 j
/-- t and f times a, moved by b -/
def padd (p : Int) (t : Int → Int) (f : Int) (a : Int → Int) (b : Int) : Int → Int := fun j => (t j + f * a (j - b)) % p
theorem padd_red {p f b : Int} {t a : Int → Int} (hp : 0 < p) : Red p (padd p t f a b) := fun _ => em_bd hp
theorem padd_out {p f b j : Int} {t a : Int → Int} (ht : Red p t) (h : a (j - b) = 0) : padd p t f a b j = t j := by
  unfold padd
  rw [h, Int.mul_zero, Int.add_zero, em_id (ht j)]
theorem padd_sup {p f b la : Int} {t a : Int → Int} {N : Nat} (ht : Red p t) (hs : Sup t N) (hb : 0 ≤ b) (ha : ∀ j : Int, (j < 0 ∨ la ≤ j) → a j = 0) (hN : la + b ≤ N) : Sup (padd p t f a b) N := fun j hj => by
  rw [padd_out ht (ha _ (by omega))]; exact hs j hj
theorem pmul_red {p : Int} {a b : Int → Int} (hp : 0 < p) : Red p (pmul p a b) := fun _ => em_bd hp
theorem pmul_out {p la lb i : Int} {a b : Int → Int} (ha : ∀ j : Int, la ≤ j → a j = 0) (hb : ∀ j : Int, lb ≤ j → b j = 0) (hi : i < 0 ∨ la + lb - 1 ≤ i) : pmul p a b i = 0 := by
  unfold pmul
  by_cases h : i < 0
  · rw [conv_neg h]; rfl
  · rw [conv_out ha hb (by omega)]; rfl
