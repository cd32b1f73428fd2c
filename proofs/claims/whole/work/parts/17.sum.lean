/-! finite sums; products of polynomials; values by Horner's way -/
def csum (f : Int → Int) : Nat → Int
  | 0 => 0
  | n + 1 => csum f n + f (n : Int)
theorem csum_congr {f h : Int → Int} : ∀ {n : Nat}, (∀ j : Int, 0 ≤ j → j < n → f j = h j) → csum f n = csum h n
  | 0, _ => rfl
  | n + 1, e => by
    unfold csum
    rw [csum_congr (fun j h1 h2 => e j h1 (by omega)), e n (by omega) (by omega)]
theorem csum_zero {f : Int → Int} : ∀ {n : Nat}, (∀ j : Int, 0 ≤ j → j < n → f j = 0) → csum f n = 0
  | 0, _ => rfl
  | n + 1, e => by
    unfold csum
    rw [csum_zero (fun j h1 h2 => e j h1 (by omega)), e n (by omega) (by omega)]; rfl
/-- terms behind m are 0 -/
theorem csum_more {f : Int → Int} {m : Nat} : ∀ {n : Nat}, m ≤ n → (∀ j : Int, m ≤ j → j < n → f j = 0) → csum f n = csum f m
  | 0, h, _ => by rw [show m = 0 by omega]
  | n + 1, h, e => by
    by_cases hm : m = n + 1
    · rw [hm]
    · show csum f n + f (n : Int) = csum f m
      rw [csum_more (m := m) (by omega) (fun j h1 h2 => e j h1 (by omega)), e n (by omega) (by omega)]
      omega
theorem csum_bd {f : Int → Int} {b : Int} : ∀ {n : Nat}, (∀ j : Int, 0 ≤ j → j < n → 0 ≤ f j ∧ f j ≤ b) → 0 ≤ csum f n ∧ csum f n ≤ n * b
  | 0, _ => by unfold csum; omega
  | n + 1, e => by
    have h1 := csum_bd (f := f) (b := b) (n := n) (fun j h1 h2 => e j h1 (by omega))
    have h2 := e n (by omega) (by omega)
    unfold csum
    rw [show ((n + 1 : Nat) : Int) * b = n * b + b by rw [Int.natCast_add, Int.add_mul]; omega]
    omega
/-- the product's number i -/
def conv (a b : Int → Int) (i : Int) : Int := csum (fun j => a j * b (i - j)) (i + 1).toNat
/-- the product, of NUMBERS below p -/
def pmul (p : Int) (a b : Int → Int) : Int → Int := fun i => conv a b i % p
theorem conv_neg {a b : Int → Int} {i : Int} (h : i < 0) : conv a b i = 0 := by
  unfold conv
  rw [show (i + 1).toNat = 0 by omega]; rfl
theorem conv_bd {a b : Int → Int} {p i : Int} (ha : Red p a) (hb : Red p b) (hp : p ≤ 7681) (hi : i ≤ 127) : 0 ≤ conv a b i ∧ conv a b i ≤ 128 * 58982400 := by
  have h1 := csum_bd (f := fun j => a j * b (i - j)) (b := 58982400) (n := (i + 1).toNat) (fun j _ _ => mul_bd (ha j) (hb (i - j)) hp)
  unfold conv
  have h2 : ((i + 1).toNat : Int) * 58982400 ≤ 128 * 58982400 := Int.mul_le_mul_of_nonneg_right (by omega) (by omega)
  omega
/-- behind both lengths it's 0 -/
theorem conv_out {a b : Int → Int} {la lb i : Int} (ha : ∀ j : Int, la ≤ j → a j = 0) (hb : ∀ j : Int, lb ≤ j → b j = 0) (hi : la + lb - 1 ≤ i) : conv a b i = 0 := by
  refine csum_zero (fun j h1 h2 => ?_)
  by_cases hj : la ≤ j
  · show a j * b (i - j) = 0
    rw [ha j hj, Int.zero_mul]
  · show a j * b (i - j) = 0
    rw [hb (i - j) (by omega), Int.mul_zero]
/-- a(N - m) + x (a(N - m + 1) + ..) -/
def tv (a : Int → Int) (x N : Int) : Nat → Int
  | 0 => 0
  | m + 1 => a (N - (m + 1 : Nat)) + x * tv a x N m
/-- the value of the first N numbers at x -/
def ev (a : Int → Int) (x : Int) (N : Nat) : Int := tv a x N N
theorem tv_zero {a : Int → Int} {x N : Int} : ∀ {m : Nat}, (∀ j : Int, N - m ≤ j → j < N → a j = 0) → tv a x N m = 0
  | 0, _ => rfl
  | m + 1, h => by
    unfold tv
    rw [tv_zero (fun j h1 h2 => h j (by omega) h2), h _ (by omega) (by omega)]
    omega
theorem tv_drop {a : Int → Int} {x N M : Int} (hN : N ≤ M) (h : ∀ j : Int, N ≤ j → j < M → a j = 0) : ∀ m : Nat, tv a x M (m + (M - N).toNat) = tv a x N m
  | 0 => by
    rw [Nat.zero_add]
    exact tv_zero (fun j h1 h2 => h j (by omega) h2)
  | m + 1 => by
    rw [show m + 1 + (M - N).toNat = (m + (M - N).toNat) + 1 by omega]
    unfold tv
    rw [tv_drop hN h m]
    congr 2
    omega
theorem ev_len {a : Int → Int} {x : Int} {N : Nat} (h : Sup a N) : tv a x (plen a N) (plen a N).toNat = ev a x N := by
  have hb := plen_bd a N
  have := tv_drop (a := a) (x := x) (N := plen a N) (M := N) hb.2 (fun j h1 _ => Sup_len h h1) (plen a N).toNat
  rw [show (plen a N).toNat + ((N : Int) - plen a N).toNat = N by omega] at this
  exact this.symm
