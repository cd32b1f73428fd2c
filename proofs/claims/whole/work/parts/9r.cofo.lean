/-! hO of leastCofactor -/
theorem eu_O {p M : Int} {a b : Int → Int} (hP : IsP p) (hM : M ≤ 64) (ha : SR p 64 a) (hb : SR p 64 b) (la : plen a 64 ≤ M) (lb : plen b 64 ≤ M) : ∀ k : Nat, (∀ s : Nat, s < k → 0 < plen (eu p b a s).2.1 64) → plen (eu p b a k).2.1 64 ≤ 0 → 0 < plen b 64 → 0 < plen (eu p b a k).1 64 ∧ 0 < plen (pdiv p b (eu p b a k).1 (plen b 64) (plen (eu p b a k).1 64)).1 64 := fun k h1 h2 hl => by
  have IE := (eu_I hP hM hb ha lb la k h1).1
  have zE : ∀ i : Int, (eu p b a k).2.1 i = 0 := fun i => Sup_z IE.2.1.1 (by have := plen_bd (eu p b a k).2.1 64; omega)
  have E1 := (eu_Dv (D := (eu p b a k).1) hP hM hb ha lb la (SR_zn IE.1) k h1).mpr ⟨Dv_rf (SR_zn IE.1), Dv_pz zE⟩
  have rO := IE.1
  have E2 := E1.1
  generalize (eu p b a k).1 = O at rO E2 ⊢
  obtain ⟨g1, g2, -⟩ := Dv_len hP rO hb E2 hl
  refine ⟨g1, ?_⟩
  have hD := pdiv_S hP g1 hb.2 (fun j hj => Sup_z hb.1 hj) rO.2 (fun j hj => Sup_z rO.1 hj) (plen_lead g1)
  have hbl := plen_lead hl
  have hbr := hb.2 (plen b 64 - 1)
  have bb := plen_bd b 64
  generalize (pdiv p b O (plen b 64) (plen O 64)).1 = q at hD ⊢
  generalize (pdiv p b O (plen b 64) (plen O 64)).2 = r at hD
  obtain ⟨d1, d2, d3, d4, d5⟩ := hD
  by_cases c : 0 < plen q 64
  · exact c
  · have sq : Sup q 64 := fun j hj => d5 j (by omega)
    have bq := plen_bd q 64
    have hz : ∀ i : Int, q i = 0 := fun i => Sup_z sq (by omega)
    have e : conv q O (plen b 64 - 1) = 0 := by
      unfold conv
      exact csum_zero (fun i _ _ => by show q i * O (plen b 64 - 1 - i) = 0; rw [hz, Int.zero_mul])
    have e2 := d3 (plen b 64 - 1)
    rw [e, d4 (plen b 64 - 1) (by omega)] at e2
    exact absurd (Cg_z (Cg_sy e2) hbr) hbl
