/-! order: the first number that isn't 0 -/
theorem mvin_top {p b L : Int} {xs : Int → Int} : ∀ t : Nat, mvin p b L xs t (L - 1) = xs (L - 1)
  | 0 => rfl
  | t + 1 => (iup_ne (by omega)).trans (mvin_top t)
theorem mvout_top {p b L : Int} {xs : Int → Int} : ∀ t : Nat, mvout p b L xs t (L - 1) = xs (L - 1)
  | 0 => rfl
  | t + 1 => (mvin_top _).trans (mvout_top t)
theorem fst_nz {f : Int → Int} : ∀ n : Nat, (∃ j : Int, (0 ≤ j ∧ j < n) ∧ f j ≠ 0) → ∃ z : Int, (0 ≤ z ∧ z < n) ∧ f z ≠ 0 ∧ ∀ j : Int, 0 ≤ j → j < z → f j = 0
  | 0, h => by
    obtain ⟨j, hj, _⟩ := h
    omega
  | n + 1, h => by
    by_cases c : ∃ j : Int, (0 ≤ j ∧ j < n) ∧ f j ≠ 0
    · obtain ⟨z, h1, h2, h3⟩ := fst_nz n c
      exact ⟨z, by omega, h2, h3⟩
    · obtain ⟨j, hj, hf⟩ := h
      have e : j = n := by
        by_cases d : j < n
        · exact absurd ⟨j, ⟨hj.1, d⟩, hf⟩ c
        · omega
      refine ⟨j, hj, hf, fun i h0 hi => ?_⟩
      by_cases d : f i = 0
      · exact d
      · exact absurd ⟨i, ⟨h0, by omega⟩, d⟩ c
theorem pmove_more {p b : Int} {xs : Int → Int} {N M : Nat} (h : Sup xs N) (hN : N ≤ M) : pmove p b xs M = pmove p b xs N := by
  unfold pmove
  rw [plen_more h hN]
theorem pmove_nz {p b : Int} {xs : Int → Int} {N : Nat} (hp : 0 < p) (hs : Sup xs N) (hr : Red p xs) (hl : plen xs N ≠ 0) : ∃ z : Int, (0 ≤ z ∧ z < N) ∧ pmove p b xs N z ≠ 0 ∧ ∀ j : Int, 0 ≤ j → j < z → pmove p b xs N j = 0 := by
  have hb := plen_bd xs N
  refine fst_nz N ⟨plen xs N - 1, by omega, ?_⟩
  unfold pmove
  rw [mvout_top]
  exact plen_lead (by omega)
theorem plen_gt {xs : Int → Int} {N : Nat} {z : Int} (hs : Sup xs N) (h : xs z ≠ 0) : z < plen xs N := by
  by_cases c : z < plen xs N
  · exact c
  · exact absurd (Sup_len hs (by omega)) h
