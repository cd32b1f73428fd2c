/-! division: there is one, and one alone -/
theorem conv_top {d b : Int → Int} {k m : Int} (hd : ∀ j : Int, k < j → d j = 0) (hb : ∀ j : Int, m ≤ j → b j = 0) (hk : 0 ≤ k) (hm : 1 ≤ m) : conv d b (k + m - 1) = d k * b (m - 1) := by
  unfold conv
  have e : csum (fun j => d j * b (k + m - 1 - j)) (k + m - 1 + 1).toNat = csum (fun j => if j = k then d k * b (m - 1) else 0) (k + m - 1 + 1).toNat := by
    refine csum_congr (fun j _ _ => ?_)
    show d j * b (k + m - 1 - j) = if j = k then d k * b (m - 1) else 0
    by_cases hj : j = k
    · rw [if_pos hj, hj]
      congr 2
      omega
    · rw [if_neg hj]
      by_cases h2 : k < j
      · rw [hd j h2, Int.zero_mul]
      · rw [hb _ (by omega), Int.mul_zero]
  rw [e, csum_one, if_pos (by omega)]
theorem conv_sub {a c b : Int → Int} {i : Int} : conv (fun j => a j - c j) b i = conv a b i - conv c b i := by
  unfold conv
  have e : csum (fun j => (a j - c j) * b (i - j)) (i + 1).toNat = csum (fun j => a j * b (i - j) + (-1) * (c j * b (i - j))) (i + 1).toNat :=
    csum_congr (fun j _ _ => by show (a j - c j) * b (i - j) = a j * b (i - j) + (-1) * (c j * b (i - j)); rw [Int.sub_mul]; omega)
  show csum (fun j => (a j - c j) * b (i - j)) (i + 1).toNat = _
  rw [e, csum_add, csum_mul (f := fun j => c j * b (i - j)) (c := -1)]
  omega
theorem DivS_uniq {p la m : Int} {a b q r q' r' : Int → Int} (hP : IsP p) (hm : 0 < m) (hb : Red p b) (hbz : ∀ j : Int, (j < 0 ∨ m ≤ j) → b j = 0) (hbl : b (m - 1) ≠ 0) (h : DivS p a b q r la m) (h' : DivS p a b q' r' la m) : q = q' ∧ r = r' := by
  obtain ⟨h1, h2, h3, h4, h5⟩ := h
  obtain ⟨g1, g2, g3, g4, g5⟩ := h'
  have hpb := hP.bd
  have hle := hb (m - 1)
  have hq : ∀ t : Nat, ∀ k : Int, la - m - t < k → q k = q' k := by
    intro t
    induction t with
    | zero => intro k hk; rw [h5 k (by omega), g5 k (by omega)]
    | succ t ih =>
      intro k hk
      by_cases hkt : la - m - t < k
      · exact ih k hkt
      · by_cases hk0 : k < 0
        · rw [h5 k (by omega), g5 k (by omega)]
        · have e1 := conv_top (d := fun j => q j - q' j) (b := b) (k := k) (m := m) (fun j hj => by show q j - q' j = 0; rw [ih j (by omega)]; omega) (fun j hj => hbz j (by omega)) (by omega) (by omega)
          rw [conv_sub] at e1
          have e2 := Cg_sub (h3 (k + m - 1)) (g3 (k + m - 1))
          rw [h4 (k + m - 1) (by omega), g4 (k + m - 1) (by omega)] at e2
          have e3 : Cg p (b (m - 1) * (q k - q' k)) 0 := by
            rw [Int.mul_comm, ← e1]
            exact Cg_tr (Cg_of (by omega)) (Cg_tr e2 (Cg_of (by omega)))
          have e4 := Cg_nz hP (by omega) e3
          have e5 : Cg p (q k) (q' k) := Cg_tr (Cg_of (by omega)) (Cg_tr (Cg_add e4 (Cg_rf (a := q' k))) (Cg_of (by omega)))
          exact Cg_lt e5 (h1 k) (g1 k)
  have eq : q = q' := funext fun k => hq (la - m - k + 1).toNat k (by omega)
  subst eq
  refine ⟨rfl, funext fun j => ?_⟩
  have e2 := Cg_sub (h3 j) (g3 j)
  have e5 : Cg p (r j) (r' j) := Cg_tr (Cg_of (by omega)) (Cg_tr (Cg_add e2 (Cg_rf (a := r' j))) (Cg_of (by omega)))
  exact Cg_lt e5 (h2 j) (g2 j)
theorem DivI_end {p la m : Int} {a b : Int → Int} (hP : IsP p) (hm : 0 < m) (hb : Red p b) (hbz : ∀ j : Int, (j < 0 ∨ m ≤ j) → b j = 0) (hbl : b (m - 1) ≠ 0) : ∀ (k : Nat) (i : Int) (q r : Int → Int), i + 1 ≤ k → (i < 0 → i = -1 ∨ la < m) → i ≤ la - m → DivI p a b q r la m i → ∃ q r : Int → Int, DivS p a b q r la m := by
  intro k
  induction k with
  | zero =>
    intro i q r hk hi0 hil hI
    exact ⟨q, r, hI.1, hI.2.1, hI.2.2.1, fun j hj => hI.2.2.2.1 j (by omega), fun j hj => hI.2.2.2.2 j (by omega)⟩
  | succ k ih =>
    intro i q r hk hi0 hil hI
    by_cases hi : i < 0
    · exact ih i q r (by omega) hi0 hil hI
    · exact ih (i - 1) _ _ (by omega) (by omega) (by omega) (DivI_step hP hI (by omega) hil hm hb hbz hbl rfl)
theorem DivS_ex {p la m : Int} {a b : Int → Int} (hP : IsP p) (hm : 0 < m) (ha : Red p a) (haz : ∀ j : Int, (j < 0 ∨ la ≤ j) → a j = 0) (hb : Red p b) (hbz : ∀ j : Int, (j < 0 ∨ m ≤ j) → b j = 0) (hbl : b (m - 1) ≠ 0) : ∃ q r : Int → Int, DivS p a b q r la m := by
  have hpb := hP.bd
  exact DivI_end hP hm hb hbz hbl (la - m + 1).toNat (la - m) pz a (by omega) (by omega) (Int.le_refl _) ⟨Red_pz (by omega), ha, fun j => Cg_of (by rw [conv_pz]; omega), fun j hj => haz j (by omega), fun j _ => rfl⟩
/-- QUOTIENT and REST of a (length la) by b (length lb) -/
noncomputable def pdiv (p : Int) (a b : Int → Int) (la lb : Int) : (Int → Int) × (Int → Int) := @Classical.epsilon ((Int → Int) × (Int → Int)) ⟨(pz, pz)⟩ (fun x => DivS p a b x.1 x.2 la lb)
theorem pdiv_S {p la m : Int} {a b : Int → Int} (hP : IsP p) (hm : 0 < m) (ha : Red p a) (haz : ∀ j : Int, (j < 0 ∨ la ≤ j) → a j = 0) (hb : Red p b) (hbz : ∀ j : Int, (j < 0 ∨ m ≤ j) → b j = 0) (hbl : b (m - 1) ≠ 0) : DivS p a b (pdiv p a b la m).1 (pdiv p a b la m).2 la m := by
  obtain ⟨q, r, h⟩ := DivS_ex (la := la) hP hm ha haz hb hbz hbl
  exact Classical.epsilon_spec_aux ⟨(pz, pz)⟩ (fun x : (Int → Int) × (Int → Int) => DivS p a b x.1 x.2 la m) ⟨(q, r), h⟩
