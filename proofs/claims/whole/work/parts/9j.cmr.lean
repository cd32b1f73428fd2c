/-! what is composed keeps to its room -/
theorem cmpo_z {p L e : Int} {a b : Int → Int} (he : 0 ≤ e) (hb : ∀ j : Int, e + 1 ≤ j → b j = 0) : ∀ (s : Nat) (j : Int), (j < 0 ∨ (s : Int) * e + 1 ≤ j) → cmpo p a b L (s + 1) j = 0
  | 0, j, hj => by
    show iup (pmul p pz b) 0 _ j = 0
    rw [iup_ne (by omega)]
    exact pmul_z (Or.inl (fun _ => rfl))
  | s + 1, j, hj => by
    have ih := cmpo_z (p := p) (L := L) (a := a) he hb s
    have hse : 0 ≤ (s : Int) * e := Int.mul_nonneg (by omega) he
    have hs1 : ((s + 1 : Nat) : Int) * e = (s : Int) * e + e := by
      rw [show ((s + 1 : Nat) : Int) = (s : Int) + 1 by omega, Int.add_mul, Int.one_mul]
    rw [hs1] at hj
    show iup (pmul p (cmpo p a b L (s + 1)) b) 0 _ j = 0
    rw [iup_ne (by omega)]
    exact pmul_out (la := (s : Int) * e + 1) (lb := e + 1) (fun i hi => ih i (Or.inr hi)) hb (by omega)
theorem cmpo_room {p n m L : Int} {a b : Int → Int} {N : Nat} (hm : 0 ≤ m ∧ m ≤ 32) (hb : ∀ j : Int, m ≤ j → b j = 0) (hbig : ¬ (1 < n ∧ 1 < m ∧ 32 < (n - 1) * (m - 1) + 1)) : ∀ k : Nat, k < n → plen (cmpo p a b L k) N + m ≤ 65
  | 0, _ => by
    have : plen (cmpo p a b L 0) N = 0 := plen_pz N
    omega
  | s + 1, hk => by
    by_cases c : m ≤ 1
    · have hz := cmpo_z (p := p) (L := L) (a := a) (b := b) (e := 0) (Int.le_refl _) (fun j hj => hb j (by omega)) s
      rw [Int.mul_zero] at hz
      have : plen (cmpo p a b L (s + 1)) N ≤ 1 := plen_le (by decide) (fun j hj _ => hz j (by omega))
      omega
    · have hz := cmpo_z (p := p) (L := L) (a := a) (b := b) (e := m - 1) (by omega) (fun j hj => hb j (by omega)) s
      have hse : 0 ≤ (s : Int) * (m - 1) := Int.mul_nonneg (by omega) (by omega)
      have hl : plen (cmpo p a b L (s + 1)) N ≤ (s : Int) * (m - 1) + 1 := plen_le (by omega) (fun j hj _ => hz j (by omega))
      have h1 : (n - 1) * (m - 1) = (n - 2) * (m - 1) + (m - 1) := by
        rw [show n - 1 = (n - 2) + 1 by omega, Int.add_mul, Int.one_mul]
      have h2 : (s : Int) * (m - 1) ≤ (n - 2) * (m - 1) := Int.mul_le_mul_of_nonneg_right (by omega) (by omega)
      omega
