/-! a polynomial moved: its numbers as sums; what the passes make -/
def tp (b : Int) : Nat → Int → Int
  | 0 => one
  | i + 1 => fun k => tp b i (k - 1) + b * tp b i k
theorem tp_neg {b : Int} : ∀ (i : Nat) {k : Int}, k < 0 → tp b i k = 0
  | 0, k, h => (iup_ne (by omega)).trans rfl
  | i + 1, k, h => by
    show tp b i (k - 1) + b * tp b i k = 0
    rw [tp_neg i (by omega), tp_neg i h, Int.mul_zero]; rfl
theorem tp_zero {b : Int} : ∀ i : Nat, tp b i 0 = b ^ i
  | 0 => (show (1 : Int) = b ^ 0 by rw [Int.pow_zero])
  | i + 1 => by
    show tp b i (0 - 1) + b * tp b i 0 = b ^ (i + 1)
    rw [tp_neg i (by decide), tp_zero i, Int.zero_add, Int.pow_succ, Int.mul_comm]
theorem bin_pas : (List.range 15).all (fun i => (List.range 15).all (fun q => decide (bin ((i + 1 : Nat) : Int) (q + 1) = bin (i : Int) q + bin (i : Int) (q + 1)))) = true := by decide +kernel
theorem bin_big : (List.range 16).all (fun i => (List.range 16).all (fun q => decide (i < q → bin (i : Int) q = 0))) = true := by decide +kernel
theorem bin_S {i q : Nat} (hi : i < 15) (hq : q < 15) : bin ((i + 1 : Nat) : Int) (q + 1) = bin (i : Int) q + bin (i : Int) (q + 1) := of_decide_eq_true (List.all_eq_true.mp (List.all_eq_true.mp bin_pas i (List.mem_range.mpr hi)) q (List.mem_range.mpr hq))
theorem bin_Z {i q : Nat} (hi : i < 16) (hq : q < 16) (h : i < q) : bin (i : Int) q = 0 := (of_decide_eq_true (List.all_eq_true.mp (List.all_eq_true.mp bin_big i (List.mem_range.mpr hi)) q (List.mem_range.mpr hq))) h
theorem tp_bin {b : Int} : ∀ (i k : Nat), i < 16 → k < 16 → tp b i (k : Int) = if i < k then 0 else bin (i : Int) k * b ^ (i - k)
  | 0, 0, _, _ => by
    rw [if_neg (by omega)]
    show (1 : Int) = 1 * b ^ 0
    rw [Int.pow_zero]; rfl
  | 0, k + 1, _, _ => by
    rw [if_pos (by omega)]
    show iup pz 0 1 ((k + 1 : Nat) : Int) = 0
    have hne : ((k + 1 : Nat) : Int) ≠ 0 := by omega
    exact (iup_ne hne).trans rfl
  | i + 1, 0, _, _ => by
    rw [if_neg (by omega)]
    have : tp b (i + 1) ((0 : Nat) : Int) = b ^ (i + 1) := tp_zero (i + 1)
    rw [this]
    show b ^ (i + 1) = 1 * b ^ (i + 1 - 0)
    rw [Int.one_mul]; rfl
  | i + 1, k + 1, hi, hk => by
    show tp b i (((k + 1 : Nat) : Int) - 1) + b * tp b i ((k + 1 : Nat) : Int) = _
    rw [show ((k + 1 : Nat) : Int) - 1 = (k : Int) by omega, tp_bin i k (by omega) (by omega), tp_bin i (k + 1) (by omega) hk, bin_S (by omega) (by omega)]
    by_cases c1 : i < k
    · rw [if_pos c1, if_pos (show i < k + 1 by omega), if_pos (show i + 1 < k + 1 by omega), Int.mul_zero]; rfl
    · rw [if_neg c1, if_neg (show ¬ i + 1 < k + 1 by omega), show i + 1 - (k + 1) = i - k by omega]
      by_cases c2 : i < k + 1
      · rw [if_pos c2, bin_Z (by omega) hk c2, Int.mul_zero, Int.add_zero, Int.add_zero]
      · rw [if_neg c2, Int.add_mul]
        congr 1
        rw [show i - k = (i - (k + 1)) + 1 by omega, Int.pow_succ, Int.mul_left_comm, Int.mul_comm b]
/-- number k of the moved one -/
def T (F : Int → Int) (b : Int) (N : Nat) (k : Int) : Int := csum (fun j => F j * tp b j.toNat k) N
theorem T_more {F : Int → Int} {b k : Int} {N M : Nat} (h : ∀ j : Int, (N : Int) ≤ j → F j = 0) (hN : N ≤ M) : T F b M k = T F b N k := csum_more hN (fun j h1 _ => by
  show F j * tp b j.toNat k = 0
  rw [h j h1, Int.zero_mul])
theorem T_cg {p b k : Int} {F G : Int → Int} {N : Nat} (h : ∀ j : Int, Cg p (F j) (G j)) : Cg p (T F b N k) (T G b N k) := Cg_csum (fun j _ _ => Cg_mul (h j) Cg_rf)
theorem T_zero {F : Int → Int} {b : Int} {N : Nat} : T F b N 0 = vl F b N := csum_congr (fun j _ _ => by
  show F j * tp b j.toNat 0 = F j * b ^ j.toNat
  rw [tp_zero])
theorem T_neg {F : Int → Int} {b k : Int} {N : Nat} (h : k < 0) : T F b N k = 0 := csum_zero (fun j _ _ => by
  show F j * tp b j.toNat k = 0
  rw [tp_neg _ h, Int.mul_zero])
theorem T_lin {F G : Int → Int} {b k c : Int} {N : Nat} : T (fun j => F j + c * G j) b N k = T F b N k + c * T G b N k := by
  unfold T
  rw [← csum_mul, ← csum_add]
  refine csum_congr (fun j _ _ => ?_)
  show (F j + c * G j) * tp b j.toNat k = F j * tp b j.toNat k + c * (G j * tp b j.toNat k)
  rw [Int.add_mul, Int.mul_assoc]
theorem T_line {p c b k : Int} {F : Int → Int} {N : Nat} (hF : Zn F) (hz : ∀ j : Int, (N : Int) ≤ j → F j = 0) : Cg p (T (conv F (line p c)) b (N + 1) k) (T F b N (k - 1) + (b - c) * T F b N k) := by
  have e1 : Cg p (T (conv F (line p c)) b (N + 1) k) (T (fun j => F (j - 1) + (-c) * F j) b (N + 1) k) := T_cg (fun j => by
    rw [conv_line hF]
    exact Cg_tr (Cg_add (Cg_mul Cg_em Cg_rf) Cg_rf) (Cg_of (Int.add_comm _ _)))
  refine Cg_tr e1 (Cg_of ?_)
  rw [T_lin, T_more (F := F) hz (Nat.le_succ N)]
  have e2 : T (fun j => F (j - 1)) b (N + 1) k = T F b N (k - 1) + b * T F b N k := by
    unfold T
    rw [csum_left]
    have e3 : F (0 - 1) = 0 := hF _ (by decide)
    show F (0 - 1) * tp b 0 k + csum (fun j => F (j + 1 - 1) * tp b (j + 1).toNat k) N = csum (fun j => F j * tp b j.toNat (k - 1)) N + b * csum (fun j => F j * tp b j.toNat k) N
    rw [e3, Int.zero_mul, Int.zero_add, ← csum_mul, ← csum_add]
    refine csum_congr (fun j h0 _ => ?_)
    show F (j + 1 - 1) * tp b (j + 1).toNat k = F j * tp b j.toNat (k - 1) + b * (F j * tp b j.toNat k)
    rw [show j + 1 - 1 = j by omega, show (j + 1).toNat = j.toNat + 1 by omega]
    show F j * (tp b j.toNat (k - 1) + b * tp b j.toNat k) = _
    rw [Int.mul_add, Int.mul_left_comm (F j) b]
  rw [e2, Int.sub_mul, Int.neg_mul]
  omega
/-- the same from a place on, by Horner's way -/
def tf (b : Int) (F : Int → Int) : Int → Nat → Int → Int
  | _, 0 => fun _ => 0
  | s, n + 1 => fun k => (if k = 0 then F s else 0) + tf b F (s + 1) n (k - 1) + b * tf b F (s + 1) n k
theorem tf_neg {b : Int} {F : Int → Int} : ∀ (n : Nat) {s k : Int}, k < 0 → tf b F s n k = 0
  | 0, _, _, _ => rfl
  | n + 1, s, k, h => by
    show (if k = 0 then F s else 0) + tf b F (s + 1) n (k - 1) + b * tf b F (s + 1) n k = 0
    rw [if_neg (by omega), tf_neg n (by omega), tf_neg n h, Int.mul_zero]; rfl
theorem tf_big {b : Int} {F : Int → Int} : ∀ (n : Nat) {s k : Int}, (n : Int) ≤ k → tf b F s n k = 0
  | 0, _, _, _ => rfl
  | n + 1, s, k, h => by
    show (if k = 0 then F s else 0) + tf b F (s + 1) n (k - 1) + b * tf b F (s + 1) n k = 0
    rw [if_neg (by omega), tf_big n (by omega), tf_big n (by omega), Int.mul_zero]; rfl
theorem tf_sum {b : Int} {F : Int → Int} : ∀ (n : Nat) (s k : Int), tf b F s n k = csum (fun j => F (s + j) * tp b j.toNat k) n
  | 0, _, _ => rfl
  | n + 1, s, k => by
    rw [csum_left]
    show (if k = 0 then F s else 0) + tf b F (s + 1) n (k - 1) + b * tf b F (s + 1) n k = F (s + 0) * tp b 0 k + csum (fun j => F (s + (j + 1)) * tp b (j + 1).toNat k) n
    rw [tf_sum n, tf_sum n, Int.add_zero, Int.add_assoc]
    have e1 : F s * tp b 0 k = if k = 0 then F s else 0 := by
      show F s * iup pz 0 1 k = _
      by_cases c : k = 0
      · rw [if_pos c, c, iup_at, Int.mul_one]
      · rw [if_neg c, iup_ne c]; exact Int.mul_zero _
    rw [e1]
    congr 1
    rw [← csum_mul, ← csum_add]
    refine csum_congr (fun j h0 _ => ?_)
    show F (s + 1 + j) * tp b j.toNat (k - 1) + b * (F (s + 1 + j) * tp b j.toNat k) = F (s + (j + 1)) * tp b (j + 1).toNat k
    rw [show (j + 1).toNat = j.toNat + 1 by omega, show s + (j + 1) = s + 1 + j by omega]
    show _ = F (s + 1 + j) * (tp b j.toNat (k - 1) + b * tp b j.toNat k)
    rw [Int.mul_add, Int.mul_left_comm (F (s + 1 + j)) b]
theorem tf_T {b k : Int} {F : Int → Int} {N : Nat} : tf b F 0 N k = T F b N k := by
  rw [tf_sum]
  exact csum_congr (fun j _ _ => by
    show F (0 + j) * tp b j.toNat k = F j * tp b j.toNat k
    rw [Int.zero_add])
theorem mvin_ge {p b L : Int} {A : Int → Int} : ∀ (t : Nat) {j : Int}, (j < L - 1 - t ∨ L - 1 ≤ j) → mvin p b L A t j = A j
  | 0, _, _ => rfl
  | t + 1, j, h => (iup_ne (by omega)).trans (mvin_ge t (by omega))
theorem mvin_at {p b L : Int} {A : Int → Int} : ∀ (t : Nat) {j : Int}, L - 1 - t ≤ j → j ≤ L - 2 → mvin p b L A t j = (A j + b * mvin p b L A t (j + 1)) % p
  | 0, j, h1, h2 => by omega
  | t + 1, j, h1, h2 => by
    by_cases c : j = L - 2 - t
    · rw [c]
      have e : mvin p b L A (t + 1) (L - 2 - t) = (mvin p b L A t (L - 2 - t) + b * mvin p b L A t (L - 1 - t)) % p := iup_at
      have e2 : mvin p b L A (t + 1) (L - 2 - t + 1) = mvin p b L A t (L - 2 - t + 1) := iup_ne (by omega)
      rw [e, e2, mvin_ge t (Or.inl (by omega)), show L - 1 - (t : Int) = L - 2 - t + 1 by omega]
    · have e : mvin p b L A (t + 1) j = mvin p b L A t j := iup_ne c
      have e2 : mvin p b L A (t + 1) (j + 1) = mvin p b L A t (j + 1) := iup_ne (by omega)
      rw [e, e2]
      exact mvin_at t (by omega) h2
/-- a pass -/
theorem pass_tf {p b L : Int} {A A' : Int → Int} {i : Int} (hA : ∀ j : Int, i ≤ j → j ≤ L - 2 → A' j = (A j + b * A' (j + 1)) % p) (hL : A' (L - 1) = A (L - 1)) : ∀ (n : Nat) (s : Int), i ≤ s → s + n + 1 = L → Cg p (tf b A s (n + 1) 0) (A' s) ∧ ∀ k : Int, 0 ≤ k → Cg p (tf b A s (n + 1) (k + 1)) (tf b A' (s + 1) n k)
  | 0, s, hs, hn => by
    have es : s = L - 1 := by omega
    refine ⟨Cg_of ?_, fun k hk => Cg_of ?_⟩
    · show (if (0 : Int) = 0 then A s else 0) + 0 + b * 0 = A' s
      rw [if_pos rfl, Int.mul_zero, es, hL]; omega
    · show (if k + 1 = 0 then A s else 0) + 0 + b * 0 = 0
      rw [if_neg (by omega), Int.mul_zero]; rfl
  | n + 1, s, hs, hn => by
    obtain ⟨i1, i2⟩ := pass_tf hA hL n (s + 1) (by omega) (by omega)
    have e1 : Cg p (tf b A s (n + 1 + 1) 0) (A' s) := by
      have e0 : tf b A s (n + 1 + 1) 0 = (if (0 : Int) = 0 then A s else 0) + tf b A (s + 1) (n + 1) (0 - 1) + b * tf b A (s + 1) (n + 1) 0 := rfl
      rw [e0, if_pos rfl, tf_neg _ (by decide), Int.add_zero, hA s hs (by omega)]
      exact Cg_tr (Cg_add Cg_rf (Cg_mul Cg_rf i1)) (Cg_sy Cg_em)
    refine ⟨e1, fun k hk => ?_⟩
    have e0 : tf b A s (n + 1 + 1) (k + 1) = (if k + 1 = 0 then A s else 0) + tf b A (s + 1) (n + 1) (k + 1 - 1) + b * tf b A (s + 1) (n + 1) (k + 1) := rfl
    have e2 : tf b A' (s + 1) (n + 1) k = (if k = 0 then A' (s + 1) else 0) + tf b A' (s + 1 + 1) n (k - 1) + b * tf b A' (s + 1 + 1) n k := rfl
    rw [e0, e2, if_neg (by omega), Int.zero_add, show k + 1 - 1 = k by omega]
    refine Cg_add ?_ (Cg_mul Cg_rf (i2 k hk))
    by_cases c : k = 0
    · subst c
      rw [if_pos rfl, tf_neg n (by decide), Int.add_zero]
      exact i1
    · rw [if_neg c, Int.zero_add]
      have := i2 (k - 1) (by omega)
      rw [show k - 1 + 1 = k by omega] at this
      exact this
theorem mvout_tf {p b : Int} {L : Nat} {F : Int → Int} : ∀ e : Nat, e < L → (∀ k : Int, 0 ≤ k → k < e → Cg p (mvout p b L F e k) (tf b F 0 L k)) ∧ ∀ k : Int, 0 ≤ k → Cg p (tf b (mvout p b L F e) e (L - e) k) (tf b F 0 L (e + k))
  | 0, _ => ⟨fun k h1 h2 => by omega, fun k _ => Cg_of (by
      show tf b F 0 L k = tf b F 0 L (0 + k)
      rw [Int.zero_add])⟩
  | e + 1, he => by
    obtain ⟨h1, h2⟩ := mvout_tf (p := p) (b := b) (L := L) (F := F) e (by omega)
    have eA : mvout p b L F (e + 1) = mvin p b L (mvout p b L F e) ((L : Int) - 1 - e).toNat := rfl
    have g := pass_tf (p := p) (b := b) (L := L) (A := mvout p b L F e) (A' := mvout p b L F (e + 1)) (i := e) (fun j hj1 hj2 => by rw [eA]; exact mvin_at _ (by omega) hj2) (by rw [eA]; exact mvin_ge _ (by omega)) (L - (e + 1)) e (Int.le_refl _) (by omega)
    rw [show L - (e + 1) + 1 = L - e by omega] at g
    have hlow : ∀ k : Int, k < e → mvout p b L F (e + 1) k = mvout p b L F e k := fun k hk => by
      rw [eA]; exact mvin_ge _ (by omega)
    refine ⟨fun k k0 k1 => ?_, fun k k0 => ?_⟩
    · by_cases c : k = e
      · rw [c]
        have := h2 0 (Int.le_refl _)
        rw [Int.add_zero] at this
        exact Cg_tr (Cg_sy g.1) this
      · rw [hlow k (by omega)]
        exact h1 k k0 (by omega)
    · have e1 := g.2 k k0
      have e2 := h2 (k + 1) (by omega)
      rw [show (e : Int) + (k + 1) = ((e + 1 : Nat) : Int) + k by omega] at e2
      exact Cg_tr (Cg_sy e1) e2
/-- as many passes as are wanted -/
theorem pmo_T {p b k : Int} {F : Int → Int} (hF : Sup F 64) (hk : 0 ≤ k) : Cg p (pmo p b F (k + 1) k) (T F b 64 k) := by
  have hb := plen_bd F 64
  obtain ⟨L, hL⟩ : ∃ L : Nat, plen F 64 = L := ⟨(plen F 64).toNat, by omega⟩
  have eT : T F b 64 k = tf b F 0 L k := by
    rw [tf_T, T_more (N := L) (M := 64) (fun j hj => Sup_len hF (by omega)) (by omega)]
  rw [eT]
  unfold pmo
  rw [hL]
  by_cases c0 : L = 0
  · subst c0
    rw [if_neg (by omega), if_pos (by omega)]
    show Cg p (F k) 0
    exact Cg_of (Sup_len hF (by omega))
  · by_cases c1 : k + 1 < (L : Int) - 1
    · rw [if_pos c1, if_neg (by omega)]
      exact (mvout_tf (p := p) (b := b) (F := F) (L := L) (k + 1).toNat (by omega)).1 k hk (by omega)
    · rw [if_neg c1, if_neg (by omega)]
      obtain ⟨g1, g2⟩ := mvout_tf (p := p) (b := b) (F := F) (L := L) ((L : Int) - 1).toNat (by omega)
      by_cases c2 : k < (L : Int) - 1
      · exact g1 k hk (by omega)
      · by_cases c3 : k = (L : Int) - 1
        · have e := g2 0 (Int.le_refl _)
          rw [show L - ((L : Int) - 1).toNat = 1 by omega] at e
          have e1 : tf b (mvout p b L F ((L : Int) - 1).toNat) ((((L : Int) - 1).toNat : Nat) : Int) 1 0 = mvout p b L F ((L : Int) - 1).toNat ((((L : Int) - 1).toNat : Nat) : Int) := by
            show (if (0 : Int) = 0 then _ else 0) + 0 + b * 0 = _
            rw [if_pos rfl, Int.mul_zero, Int.add_zero, Int.add_zero]
          rw [e1, show ((((L : Int) - 1).toNat : Nat) : Int) = k by omega, Int.add_zero] at e
          exact e
        · rw [tf_big L (by omega)]
          refine Cg_of ?_
          have hout : ∀ t : Nat, (t : Int) ≤ (L : Int) - 1 → mvout p b L F t k = F k := by
            intro t
            induction t with
            | zero => intro _; rfl
            | succ t ih => intro ht; exact (mvin_ge _ (by omega)).trans (ih (by omega))
          rw [hout _ (by omega)]
          exact Sup_len hF (by omega)
