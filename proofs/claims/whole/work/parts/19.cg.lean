/-! congruence; inverses; division -/
def Cg (p a b : Int) : Prop := ∃ k : Int, a = b + p * k
theorem Cg_rf {p a : Int} : Cg p a a := ⟨0, by omega⟩
theorem Cg_of {p a b : Int} (h : a = b) : Cg p a b := ⟨0, by omega⟩
theorem Cg_sy {p a b : Int} (h : Cg p a b) : Cg p b a := by
  obtain ⟨k, h⟩ := h
  exact ⟨-k, by rw [Int.mul_neg]; omega⟩
theorem Cg_tr {p a b c : Int} (h : Cg p a b) (h' : Cg p b c) : Cg p a c := by
  obtain ⟨k, h⟩ := h
  obtain ⟨l, h'⟩ := h'
  exact ⟨k + l, by rw [Int.mul_add]; omega⟩
theorem Cg_add {p a b c d : Int} (h : Cg p a b) (h' : Cg p c d) : Cg p (a + c) (b + d) := by
  obtain ⟨k, h⟩ := h
  obtain ⟨l, h'⟩ := h'
  exact ⟨k + l, by rw [Int.mul_add]; omega⟩
theorem Cg_neg {p a b : Int} (h : Cg p a b) : Cg p (-a) (-b) := by
  obtain ⟨k, h⟩ := h
  exact ⟨-k, by rw [Int.mul_neg]; omega⟩
theorem Cg_sub {p a b c d : Int} (h : Cg p a b) (h' : Cg p c d) : Cg p (a - c) (b - d) := by
  obtain ⟨k, h⟩ := h
  obtain ⟨l, h'⟩ := h'
  exact ⟨k - l, by rw [Int.mul_sub]; omega⟩
theorem Cg_mul {p a b c d : Int} (h : Cg p a b) (h' : Cg p c d) : Cg p (a * c) (b * d) := by
  obtain ⟨k, rfl⟩ := h
  obtain ⟨l, rfl⟩ := h'
  refine ⟨b * l + k * d + k * p * l, ?_⟩
  rw [Int.add_mul, Int.mul_add, Int.mul_add, Int.mul_add, Int.mul_add]
  have e1 : b * (p * l) = p * (b * l) := by rw [Int.mul_left_comm]
  have e2 : p * k * d = p * (k * d) := Int.mul_assoc _ _ _
  have e3 : p * k * (p * l) = p * (k * p * l) := by rw [Int.mul_assoc, Int.mul_assoc]
  rw [e1, e2, e3]
  omega
theorem Cg_em {p a : Int} : Cg p (a % p) a := ⟨-(a / p), by have := Int.emod_add_mul_ediv a p; rw [Int.mul_neg]; omega⟩
theorem Cg_eq {p a b : Int} (h : Cg p a b) : a % p = b % p := by
  obtain ⟨k, rfl⟩ := h
  exact Int.add_mul_emod_self_left _ _ _
theorem Cg_iff {p a b : Int} : Cg p a b ↔ a % p = b % p := ⟨Cg_eq, fun h => Cg_tr (Cg_sy Cg_em) (h ▸ Cg_em)⟩
theorem Cg_lt {p a b : Int} (h : Cg p a b) (ha : 0 ≤ a ∧ a < p) (hb : 0 ≤ b ∧ b < p) : a = b := by
  have := Cg_eq h
  rwa [em_id ha, em_id hb] at this
theorem Cg_z {p a : Int} (h : Cg p a 0) (ha : 0 ≤ a ∧ a < p) : a = 0 := Cg_lt h ha ⟨by omega, by omega⟩
theorem Cg_csum {p : Int} {f h : Int → Int} : ∀ {n : Nat}, (∀ j : Int, 0 ≤ j → j < n → Cg p (f j) (h j)) → Cg p (csum f n) (csum h n)
  | 0, _ => Cg_rf
  | n + 1, e => Cg_add (Cg_csum (fun j h1 h2 => e j h1 (by omega))) (e n (by omega) (by omega))
theorem inv_97 : (List.range 97).all (fun x => x == 0 || x * (x ^ 95 % 97) % 97 == 1) = true := by decide +kernel
theorem inv_193 : (List.range 193).all (fun x => x == 0 || x * (x ^ 191 % 193) % 193 == 1) = true := by decide +kernel
theorem inv_257 : (List.range 257).all (fun x => x == 0 || x * (x ^ 255 % 257) % 257 == 1) = true := by decide +kernel
theorem inv_7681 : (List.range 7681).all (fun x => x == 0 || x * (x ^ 7679 % 7681) % 7681 == 1) = true := by decide +kernel
theorem inv_use {q e : Nat} (h : (List.range q).all (fun x => x == 0 || x * (x ^ e % q) % q == 1) = true) (he : ((q : Int) - 2).toNat = e) {x : Int} (hx : 0 < x ∧ x < q) : x * inv q x % q = 1 := by
  obtain ⟨m, rfl⟩ : ∃ m : Nat, x = m := ⟨x.toNat, by omega⟩
  have h1 := List.all_eq_true.mp h m (List.mem_range.mpr (by omega))
  simp only [Bool.or_eq_true, beq_iff_eq] at h1
  rcases h1 with h1 | h1
  · omega
  · unfold inv
    rw [he, ← Int.natCast_pow, ← Int.natCast_emod, ← Int.natCast_mul, ← Int.natCast_emod, h1]
    rfl
theorem inv_em {p x : Int} (hP : IsP p) (hx : 0 < x ∧ x < p) : x * inv p x % p = 1 := by
  rcases hP with rfl | rfl | rfl | rfl
  · exact inv_use (q := 97) inv_97 rfl hx
  · exact inv_use (q := 193) inv_193 rfl hx
  · exact inv_use (q := 257) inv_257 rfl hx
  · exact inv_use (q := 7681) inv_7681 rfl hx
theorem inv_cg {p x : Int} (hP : IsP p) (hx : 0 < x ∧ x < p) : Cg p (x * inv p x) 1 := by
  have hb := hP.bd
  rw [Cg_iff, inv_em hP hx, em_id (by omega)]
/-- no zero divisors -/
theorem Cg_nz {p a b : Int} (hP : IsP p) (ha : 0 < a ∧ a < p) (h : Cg p (a * b) 0) : Cg p b 0 := by
  have h1 := Cg_mul (Cg_rf (a := inv p a)) h
  rw [Int.mul_zero] at h1
  have h2 : Cg p (a * inv p a * b) (1 * b) := Cg_mul (inv_cg hP ha) Cg_rf
  rw [Int.one_mul] at h2
  refine Cg_tr (Cg_sy h2) ?_
  rwa [Int.mul_comm a, Int.mul_assoc]
theorem csum_add {f h : Int → Int} : ∀ {n : Nat}, csum (fun j => f j + h j) n = csum f n + csum h n
  | 0 => rfl
  | n + 1 => by
    show csum (fun j => f j + h j) n + (f n + h n) = csum f n + f n + (csum h n + h n)
    rw [csum_add]; omega
theorem csum_mul {f : Int → Int} {c : Int} : ∀ {n : Nat}, csum (fun j => c * f j) n = c * csum f n
  | 0 => by show (0 : Int) = c * 0; omega
  | n + 1 => by
    show csum (fun j => c * f j) n + c * f n = c * (csum f n + f n)
    rw [csum_mul, Int.mul_add]
theorem csum_one {v i : Int} : ∀ {n : Nat}, csum (fun j => if j = i then v else 0) n = if 0 ≤ i ∧ i < n then v else 0
  | 0 => by rw [if_neg (by omega)]; rfl
  | n + 1 => by
    show csum (fun j => if j = i then v else 0) n + (if (n : Int) = i then v else 0) = _
    rw [csum_one]
    by_cases h : (n : Int) = i
    · rw [if_neg (by omega), if_pos h, if_pos (by omega)]; omega
    · rw [if_neg h]
      by_cases h2 : 0 ≤ i ∧ i < (n : Int)
      · rw [if_pos h2, if_pos (by omega)]; omega
      · rw [if_neg h2, if_neg (by omega)]; rfl
/-- a number more in the left one -/
theorem conv_iup {q b : Int → Int} {i f j : Int} (hq : q i = 0) (hi : 0 ≤ i) (hb : ∀ k : Int, k < 0 → b k = 0) : conv (iup q i f) b j = conv q b j + f * b (j - i) := by
  unfold conv
  have e : csum (fun k => iup q i f k * b (j - k)) (j + 1).toNat = csum (fun k => q k * b (j - k) + (if k = i then f * b (j - i) else 0)) (j + 1).toNat := by
    refine csum_congr (fun k _ _ => ?_)
    show iup q i f k * b (j - k) = q k * b (j - k) + (if k = i then f * b (j - i) else 0)
    by_cases hk : k = i
    · rw [if_pos hk, hk, iup_at, hq]; omega
    · rw [if_neg hk, iup_ne hk]; omega
  rw [e, csum_add, csum_one]
  by_cases h : 0 ≤ i ∧ i < ((j + 1).toNat : Int)
  · rw [if_pos h]
  · rw [if_neg h, hb (j - i) (by omega)]; omega
theorem conv_pz {b : Int → Int} {j : Int} : conv pz b j = 0 := csum_zero (fun k _ _ => by show (0 : Int) * _ = 0; omega)
/-- q and r are QUOTIENT and REST of a by b, b of length lb -/
def DivS (p : Int) (a b q r : Int → Int) (la lb : Int) : Prop := Red p q ∧ Red p r ∧ (∀ j : Int, Cg p (conv q b j + r j) (a j)) ∧ (∀ j : Int, (j < 0 ∨ lb - 1 ≤ j) → r j = 0) ∧ (∀ j : Int, (j < 0 ∨ la - lb < j) → q j = 0)
