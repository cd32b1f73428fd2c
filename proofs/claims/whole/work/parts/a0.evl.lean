/-! values; factors of a root -/
def vl (a : Int → Int) (x : Int) (N : Nat) : Int := csum (fun j => a j * x ^ j.toNat) N
theorem csum_left {f : Int → Int} : ∀ n : Nat, csum f (n + 1) = f 0 + csum (fun j => f (j + 1)) n
  | 0 => by
    show (0 : Int) + f 0 = f 0 + 0
    omega
  | n + 1 => by
    show csum f (n + 1) + f ((n + 1 : Nat) : Int) = f 0 + (csum (fun j => f (j + 1)) n + f ((n : Int) + 1))
    rw [csum_left n, Int.natCast_add]
    show f 0 + csum (fun j => f (j + 1)) n + f ((n : Int) + 1) = _
    omega
theorem vl1 {a : Int → Int} {x : Int} : vl a x 1 = a 0 := by
  show (0 : Int) + a 0 * x ^ 0 = a 0
  rw [Int.pow_zero, Int.mul_one, Int.zero_add]
theorem vl2 {a : Int → Int} {x : Int} : vl a x 2 = a 0 + a 1 * x := by
  show (0 : Int) + a 0 * x ^ 0 + a 1 * x ^ 1 = a 0 + a 1 * x
  rw [Int.pow_zero, Int.mul_one, Int.zero_add, Int.pow_succ, Int.pow_zero, Int.one_mul]
theorem tv_vl {a : Int → Int} {x N : Int} : ∀ m : Nat, tv a x N m = csum (fun j => a (N - m + j) * x ^ j.toNat) m
  | 0 => rfl
  | m + 1 => by
    rw [csum_left]
    show a (N - (m + 1 : Nat)) + x * tv a x N m = a (N - (m + 1 : Nat) + 0) * x ^ (0 : Int).toNat + csum (fun j => a (N - (m + 1 : Nat) + (j + 1)) * x ^ (j + 1).toNat) m
    rw [tv_vl m, ← csum_mul, Int.add_zero]
    have e0 : x ^ (0 : Int).toNat = 1 := Int.pow_zero x
    rw [e0, Int.mul_one]
    congr 1
    refine csum_congr (fun j h0 h1 => ?_)
    show x * (a (N - m + j) * x ^ j.toNat) = a (N - (m + 1 : Nat) + (j + 1)) * x ^ (j + 1).toNat
    rw [show N - ((m + 1 : Nat) : Int) + (j + 1) = N - m + j by omega, show (j + 1).toNat = j.toNat + 1 by omega, Int.pow_succ, Int.mul_left_comm, Int.mul_comm x]
theorem ev_vl {a : Int → Int} {x : Int} {N : Nat} : ev a x N = vl a x N := by
  unfold ev vl
  rw [tv_vl]
  refine csum_congr (fun j _ _ => ?_)
  show a ((N : Int) - N + j) * x ^ j.toNat = a j * x ^ j.toNat
  rw [show (N : Int) - N + j = j by omega]
theorem vl_more {a : Int → Int} {x : Int} {N M : Nat} (h : ∀ j : Int, (N : Int) ≤ j → a j = 0) (hN : N ≤ M) : vl a x M = vl a x N := csum_more hN (fun j h1 _ => by
  show a j * x ^ j.toNat = 0
  rw [h j h1, Int.zero_mul])
theorem vl_any {a : Int → Int} {x : Int} {N M : Nat} (h : ∀ j : Int, (N : Int) ≤ j → a j = 0) (h' : ∀ j : Int, (M : Int) ≤ j → a j = 0) : vl a x M = vl a x N := by
  by_cases c : N ≤ M
  · exact vl_more h c
  · exact (vl_more h' (by omega)).symm
theorem vl_cg {p : Int} {a b : Int → Int} {x : Int} {N : Nat} (h : ∀ j : Int, Cg p (a j) (b j)) : Cg p (vl a x N) (vl b x N) := Cg_csum (fun j _ _ => Cg_mul (h j) Cg_rf)
theorem csum_shift {f : Int → Int} (hf : Zn f) {k : Nat} : ∀ n : Nat, csum (fun i => f (i - k)) (k + n) = csum f n
  | 0 => csum_zero (fun j h0 h1 => hf _ (by omega))
  | n + 1 => by
    show csum (fun i => f (i - k)) (k + n) + f (((k + n : Nat) : Int) - k) = csum f n + f n
    rw [csum_shift hf n, show ((k + n : Nat) : Int) - k = n by omega]
theorem vl_shift {b : Int → Int} {x : Int} {k M K : Nat} (hb : Zn b) (zb : ∀ j : Int, (M : Int) ≤ j → b j = 0) (hK : k + M ≤ K) : csum (fun i => b (i - k) * x ^ i.toNat) K = x ^ k * vl b x M := by
  have e1 : csum (fun i => b (i - k) * x ^ i.toNat) K = csum (fun i => x ^ k * (b (i - k) * x ^ (i - k).toNat)) K := csum_congr (fun i h0 h1 => by
    show b (i - k) * x ^ i.toNat = x ^ k * (b (i - k) * x ^ (i - k).toNat)
    by_cases c : i < k
    · rw [hb _ (by omega), Int.zero_mul, Int.zero_mul, Int.mul_zero]
    · rw [show i.toNat = k + (i - k).toNat by omega, Int.pow_add, Int.mul_left_comm])
  rw [e1, csum_mul (f := fun i => b (i - k) * x ^ (i - k).toNat)]
  have e2 := csum_shift (f := fun i => b i * x ^ i.toNat) (fun j hj => by show b j * x ^ j.toNat = 0; rw [hb j hj, Int.zero_mul]) (k := k) (K - k)
  rw [show k + (K - k) = K by omega] at e2
  have e3 : csum (fun i => b (i - k) * x ^ (i - k).toNat) K = vl b x (K - k) := e2
  rw [e3, vl_more zb (by omega)]
/-- a product's value -/
theorem vl_conv {a b : Int → Int} {x : Int} {N M K : Nat} (hb : Zn b) (za : ∀ j : Int, (N : Int) ≤ j → a j = 0) (zb : ∀ j : Int, (M : Int) ≤ j → b j = 0) (hK : N + M ≤ K) : vl (conv a b) x K = vl a x N * vl b x M := by
  have e1 : vl (conv a b) x K = csum (fun i => csum (fun j => a j * (b (i - j) * x ^ i.toNat)) K) K := csum_congr (fun i h0 h1 => by
    show conv a b i * x ^ i.toNat = csum (fun j => a j * (b (i - j) * x ^ i.toNat)) K
    rw [conv_M (M := K) hb (by omega), Int.mul_comm, ← csum_mul]
    refine csum_congr (fun j _ _ => ?_)
    show x ^ i.toNat * (a j * b (i - j)) = a j * (b (i - j) * x ^ i.toNat)
    rw [Int.mul_left_comm, Int.mul_comm (x ^ i.toNat)])
  rw [e1, csum_swap (F := fun i j => a j * (b (i - j) * x ^ i.toNat))]
  have e2 : csum (fun j => csum (fun i => a j * (b (i - j) * x ^ i.toNat)) K) K = csum (fun j => vl b x M * (a j * x ^ j.toNat)) K := csum_congr (fun j h0 h1 => by
    show csum (fun i => a j * (b (i - j) * x ^ i.toNat)) K = vl b x M * (a j * x ^ j.toNat)
    rw [csum_mul (f := fun i => b (i - j) * x ^ i.toNat)]
    by_cases c : (N : Int) ≤ j
    · rw [za j c, Int.zero_mul, Int.zero_mul, Int.mul_zero]
    · obtain ⟨k, rfl⟩ : ∃ k : Nat, j = k := ⟨j.toNat, by omega⟩
      rw [vl_shift hb zb (by omega), show ((k : Nat) : Int).toNat = k by omega, Int.mul_comm (vl b x M), Int.mul_assoc])
  rw [e2, csum_mul (f := fun j => a j * x ^ j.toNat), Int.mul_comm]
  have e3 : csum (fun j => a j * x ^ j.toNat) K = vl a x N := vl_more za (by omega)
  rw [e3]
/-- x is a root -/
def Rz (p : Int) (a : Int → Int) (x : Int) : Prop := ∀ N : Nat, (∀ j : Int, (N : Int) ≤ j → a j = 0) → Cg p (vl a x N) 0
theorem Rz_of {p x : Int} {a : Int → Int} {N : Nat} (h : ∀ j : Int, (N : Int) ≤ j → a j = 0) (h0 : Cg p (vl a x N) 0) : Rz p a x := fun M hM => by
  rw [vl_any h hM]; exact h0
theorem Rz_ev {p x : Int} {a : Int → Int} {N : Nat} (h : ∀ j : Int, (N : Int) ≤ j → a j = 0) : Rz p a x ↔ ev a x N % p = 0 := by
  rw [ev_vl]
  constructor
  · intro hz
    have := Cg_eq (hz N h)
    rw [this]; exact Int.zero_emod p
  · intro hz
    exact Rz_of h (by rw [Cg_iff, hz, Int.zero_emod])
theorem Fs_nat {a : Int → Int} (h : Fs a) : ∃ N : Nat, ∀ j : Int, (N : Int) ≤ j → a j = 0 := by
  obtain ⟨-, L, hL⟩ := h
  exact ⟨L.toNat, fun j hj => hL j (by omega)⟩
theorem Rz_cg {p x : Int} {a b : Int → Int} (ha : Fs a) (hb : Fs b) (h : ∀ j : Int, Cg p (a j) (b j)) (hz : Rz p a x) : Rz p b x := by
  obtain ⟨N, hN⟩ := Fs_nat ha
  obtain ⟨M, hM⟩ := Fs_nat hb
  refine Rz_of (N := N + M) (fun j hj => hM j (by omega)) (Cg_tr (Cg_sy (vl_cg h)) (hz (N + M) (fun j hj => hN j (by omega))))
theorem Rz_conv {p x : Int} {a b : Int → Int} (ha : Fs a) (hb : Fs b) (h : Rz p a x ∨ Rz p b x) : Rz p (conv a b) x := by
  obtain ⟨N, hN⟩ := Fs_nat ha
  obtain ⟨M, hM⟩ := Fs_nat hb
  refine Rz_of (N := N + M) (fun j hj => conv_out (la := N) (lb := M) hN hM (by omega)) ?_
  rw [vl_conv hb.1 hN hM (Nat.le_refl _)]
  rcases h with h | h
  · exact Cg_tr (Cg_mul (h N hN) Cg_rf) (Cg_of (Int.zero_mul _))
  · exact Cg_tr (Cg_mul Cg_rf (h M hM)) (Cg_of (Int.mul_zero _))
theorem Cg_nz2 {p a b : Int} (hP : IsP p) (h : Cg p (a * b) 0) : Cg p a 0 ∨ Cg p b 0 := by
  have hpb := hP.bd
  have hb := em_bd (z := a) (p := p) (by omega)
  by_cases c : a % p = 0
  · exact Or.inl (by rw [Cg_iff, c, Int.zero_emod])
  · exact Or.inr (Cg_nz (a := a % p) hP (by omega) (Cg_tr (Cg_mul Cg_em Cg_rf) h))
theorem Rz_or {p x : Int} {a b : Int → Int} (hP : IsP p) (ha : Fs a) (hb : Fs b) (h : Rz p (conv a b) x) : Rz p a x ∨ Rz p b x := by
  obtain ⟨N, hN⟩ := Fs_nat ha
  obtain ⟨M, hM⟩ := Fs_nat hb
  have e := h (N + M) (fun j hj => conv_out (la := N) (lb := M) hN hM (by omega))
  rw [vl_conv hb.1 hN hM (Nat.le_refl _)] at e
  rcases Cg_nz2 hP e with e | e
  · exact Or.inl (Rz_of hN e)
  · exact Or.inr (Rz_of hM e)
theorem Rz_dv {p x : Int} {D X : Int → Int} (hD : Fs D) (hX : Fs X) (h : Dv p D X) (hz : Rz p D x) : Rz p X x := by
  obtain ⟨q, fq, cq⟩ := h
  exact Rz_cg (Fs_conv fq hD) hX cq (Rz_conv fq hD (Or.inr hz))
theorem line_fs {p c : Int} : Fs (line p c) := Fs_sup line_sup
theorem conv_line {p c : Int} {a : Int → Int} {j : Int} (ha : Zn a) : conv a (line p c) j = (-c) % p * a j + a (j - 1) := by
  rw [conv_comm ha line_fs.1, ← line_of (p := p) (x := c) (xs := pz) Sup_pz, conv_iup ((iup_ne (by decide)).trans rfl) (by decide) ha, conv_iup (q := pz) rfl (by decide) ha, conv_pz, Int.zero_add, Int.one_mul, show j - 0 = j by omega]
theorem vl_line {p c x : Int} : vl (line p c) x 2 = (-c) % p + x := by
  rw [vl2]
  show (-c) % p + 1 * x = (-c) % p + x
  rw [Int.one_mul]
theorem line_rz {p c x : Int} : Rz p (line p c) x ↔ Cg p x c := by
  constructor
  · intro h
    have e := h 2 (fun j hj => line_sup j (Or.inr hj))
    rw [vl_line] at e
    have e2 := Cg_add (Cg_tr (Cg_sy (Cg_add (Cg_em (a := -c)) (Cg_rf (a := x)))) e) (Cg_rf (a := c))
    exact Cg_tr (Cg_of (by omega)) (Cg_tr e2 (Cg_of (by omega)))
  · intro h
    refine Rz_of (N := 2) (fun j hj => line_sup j (Or.inr hj)) ?_
    rw [vl_line]
    exact Cg_tr (Cg_add Cg_em h) (Cg_of (by omega))
def sdv (q : Int → Int) (c : Int) (L : Nat) : Int → Int := fun j => if 0 ≤ j ∧ j < L then tv q c L (L - 1 - j).toNat else 0
/-- a root's factor -/
theorem Rz_fac {p c : Int} {q : Int → Int} (hq : Fs q) (h : Rz p q c) : Dv p (line p c) q := by
  obtain ⟨L, hL⟩ := Fs_nat hq
  have h0 := h L hL
  rw [← ev_vl] at h0
  have fz : Fs (sdv q c L) := ⟨fun j hj => if_neg (by omega), L, fun j hj => if_neg (by omega)⟩
  refine ⟨sdv q c L, fz, fun j => ?_⟩
  rw [conv_line fz.1]
  refine Cg_tr (Cg_add (Cg_mul Cg_em Cg_rf) Cg_rf) ?_
  have hz : ∀ i : Int, i < 0 ∨ (L : Int) - 1 ≤ i → sdv q c L i = 0 := fun i hi => by
    unfold sdv
    by_cases d : 0 ≤ i ∧ i < (L : Int)
    · rw [if_pos d, show ((L : Int) - 1 - i).toNat = 0 by omega]; rfl
    · rw [if_neg d]
  by_cases c1 : j < 0
  · rw [hz j (Or.inl c1), hz (j - 1) (by omega), hq.1 j c1]
    exact Cg_of (by rw [Int.mul_zero]; rfl)
  · by_cases c2 : (L : Int) ≤ j
    · rw [hz j (by omega), hz (j - 1) (by omega), hL j c2]
      exact Cg_of (by rw [Int.mul_zero]; rfl)
    · have ej : sdv q c L j = tv q c L (L - 1 - j).toNat := if_pos (by omega)
      have et : tv q c L ((L - 1 - j).toNat + 1) = q (L - (((L - 1 - j).toNat + 1 : Nat) : Int)) + c * tv q c L (L - 1 - j).toNat := rfl
      rw [← ej, show (L : Int) - (((L - 1 - j).toNat + 1 : Nat) : Int) = j by omega] at et
      by_cases c3 : j = 0
      · rw [hz (j - 1) (by omega)]
        have e0 : ev q c L = tv q c L ((L - 1 - j).toNat + 1) := by
          unfold ev
          rw [show ((L : Int) - 1 - j).toNat + 1 = L by omega]
        rw [e0, et] at h0
        have e2 := Cg_add h0 (Cg_rf (a := -(c * sdv q c L j)))
        rw [Int.neg_mul]
        exact Cg_sy (Cg_tr (Cg_of (by omega)) (Cg_tr e2 (Cg_of (by omega))))
      · have e1 : sdv q c L (j - 1) = tv q c L ((L - 1 - j).toNat + 1) := by
          unfold sdv
          rw [if_pos (by omega), show ((L : Int) - 1 - (j - 1)).toNat = (L - 1 - j).toNat + 1 by omega]
        rw [e1, et, Int.neg_mul]
        exact Cg_of (by omega)
