/-! numbers: rests, powers, shifts -/
theorem tm_bd {z p : Int} (hp : 0 < p) : -p < z.tmod p ∧ z.tmod p < p := by
  have key : ∀ c : Int, 0 ≤ c → 0 ≤ c.tmod p ∧ c.tmod p < p := fun c hc => by
    rw [Int.tmod_eq_emod_of_nonneg hc]
    exact ⟨Int.emod_nonneg _ (by omega), Int.emod_lt_of_pos _ hp⟩
  by_cases hz : 0 ≤ z
  · have := key z hz; omega
  · have := key (-z) (by omega)
    rw [Int.neg_tmod] at this
    omega
theorem tm_em {z p : Int} (hp : 0 < p) : z % p = if z.tmod p < 0 then z.tmod p + p else z.tmod p := by
  have h1 := Int.mul_tdiv_add_tmod z p
  have h2 := tm_bd (z := z) hp
  have h3 : z % p = (z.tmod p) % p := by
    rw [← Int.add_mul_emod_self_left (z.tmod p) p (z.tdiv p)]
    congr 1
    omega
  rw [h3]
  by_cases hn : z.tmod p < 0
  · rw [if_pos hn, ← Int.add_emod_right, Int.emod_eq_of_lt (by omega) (by omega)]
  · rw [if_neg hn, Int.emod_eq_of_lt (by omega) (by omega)]
theorem em_bd {z p : Int} (hp : 0 < p) : 0 ≤ z % p ∧ z % p < p := ⟨Int.emod_nonneg _ (by omega), Int.emod_lt_of_pos _ hp⟩
theorem em_id {z p : Int} (h : 0 ≤ z ∧ z < p) : z % p = z := Int.emod_eq_of_lt h.1 h.2
def IsP (p : Int) : Prop := p = 97 ∨ p = 193 ∨ p = 257 ∨ p = 7681
theorem IsP.bd {p : Int} (h : IsP p) : 97 ≤ p ∧ p ≤ 7681 := by unfold IsP at h; omega
theorem iI_nI (n : Nat) : iI (n : Int) = nI n := Int32.ofInt_eq_ofNat
theorem iI_shr1 {a : Int} (h : 0 ≤ a ∧ a ≤ 2147483647) : iI a >>> (iI 1 &&& 31) = iI (a / 2) := by
  obtain ⟨m, rfl⟩ : ∃ m : Nat, a = m := ⟨a.toNat, by omega⟩
  have e : ((m : Int) / 2) = ((m / 2 : Nat) : Int) := by omega
  rw [e, iI_nI, iI_nI]
  exact pk_shrN (by omega) _ 1 (by decide +kernel)
theorem iI_and1 {a : Int} (h : 0 ≤ a ∧ a ≤ 2147483647) : iI a &&& iI 1 = iI (a % 2) := by
  obtain ⟨m, rfl⟩ : ∃ m : Nat, a = m := ⟨a.toNat, by omega⟩
  have e : ((m : Int) % 2) = ((m % 2 : Nat) : Int) := by omega
  rw [e, iI_nI, iI_nI]
  exact pk_andN (by omega) 1 (by decide +kernel)
theorem mul_bd {a b p : Int} (ha : 0 ≤ a ∧ a < p) (hb : 0 ≤ b ∧ b < p) (hp : p ≤ 7681) : 0 ≤ a * b ∧ a * b ≤ 58982400 := by
  have h1 : 0 ≤ a * b := Int.mul_nonneg ha.1 hb.1
  have h2 : a * b ≤ 7680 * 7680 := Int.mul_le_mul (by omega) (by omega) hb.1 (by omega)
  omega
theorem em_mul_l {a b p : Int} : (a % p) * b % p = a * b % p := by rw [Int.mul_emod, Int.emod_emod, ← Int.mul_emod]
theorem em_mul_r {a b p : Int} : a * (b % p) % p = a * b % p := by rw [Int.mul_emod, Int.emod_emod, ← Int.mul_emod]
theorem em_add_l {a b p : Int} : (a % p + b) % p = (a + b) % p := by rw [Int.add_emod, Int.emod_emod, ← Int.add_emod]
theorem em_add_r {a b p : Int} : (a + b % p) % p = (a + b) % p := by rw [Int.add_emod, Int.emod_emod, ← Int.add_emod]
theorem em_sub_l {a b p : Int} : (a % p - b) % p = (a - b) % p := by rw [Int.sub_emod, Int.emod_emod, ← Int.sub_emod]
theorem em_sub_r {a b p : Int} : (a - b % p) % p = (a - b) % p := by rw [Int.sub_emod, Int.emod_emod, ← Int.sub_emod]
theorem em_pow {a p : Int} (n : Nat) : (a % p) ^ n % p = a ^ n % p := by
  induction n with
  | zero => rw [Int.pow_zero, Int.pow_zero]
  | succ n ih => rw [Int.pow_succ, Int.pow_succ, Int.mul_emod, ih, Int.emod_emod, ← Int.mul_emod]
/-- a step of raising -/
theorem pw_even {r s x0 p : Int} {l : Int} (hl : 0 ≤ l) (h : l % 2 = 0) (hi : r * s ^ l.toNat % p = x0) : r * (s * s % p) ^ (l / 2).toNat % p = x0 := by
  rw [← hi, ← em_mul_r, em_pow, em_mul_r]
  have e : l.toNat = (l / 2).toNat + (l / 2).toNat := by omega
  rw [e, Int.pow_add, Int.mul_pow]
theorem pw_odd {r s x0 p : Int} {l : Int} (hl : 0 ≤ l) (h : l % 2 = 1) (hi : r * s ^ l.toNat % p = x0) : (r * s % p) * (s * s % p) ^ (l / 2).toNat % p = x0 := by
  rw [← hi, ← em_mul_r, em_pow, em_mul_r, em_mul_l]
  have e : l.toNat = (l / 2).toNat + (l / 2).toNat + 1 := by omega
  rw [e, Int.pow_succ, Int.pow_add, Int.mul_pow]
  congr 1
  rw [Int.mul_assoc, Int.mul_comm s]
/-- what makes 1 with a NUMBER -/
def inv (p x : Int) : Int := x ^ (p - 2).toNat % p
theorem inv_bd {p x : Int} (hP : IsP p) : 0 ≤ inv p x ∧ inv p x < p := em_bd (by have := hP.bd; omega)
