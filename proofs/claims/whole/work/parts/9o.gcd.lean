/-! gcd: both sides' is the same -/
theorem mon_eq {p : Int} {N : Nat} {X D : Int → Int} {c : Int} (hP : IsP p) (hX : SR p N X) (hD : SR p N D) (hl : 0 < plen X N) (he : plen D N = plen X N) (hc : 0 < c ∧ c < p) (h : ∀ j : Int, X j = (c * D j) % p) (j : Int) : (inv p (X (plen X N - 1)) * X j) % p = (inv p (D (plen D N - 1)) * D j) % p := by
  have hpb := hP.bd
  have l1 := plen_lead hl
  have l2 := plen_lead (show 0 < plen D N by omega)
  have r1 := hX.2 (plen X N - 1)
  have r2 := hD.2 (plen D N - 1)
  rw [he] at l2 r2 ⊢
  have i1 := inv_cg hP (show 0 < X (plen X N - 1) ∧ X (plen X N - 1) < p by omega)
  have i2 := inv_cg hP (show 0 < D (plen X N - 1) ∧ D (plen X N - 1) < p by omega)
  have hx : ∀ i : Int, Cg p (X i) (c * D i) := fun i => by rw [h i]; exact Cg_em
  have hL := hx (plen X N - 1)
  generalize X (plen X N - 1) = lx at *
  generalize D (plen X N - 1) = ld at *
  have a1 : Cg p (lx * (inv p lx * X j)) (c * D j) := by
    rw [← Int.mul_assoc]
    exact Cg_tr (Cg_mul i1 (hx j)) (Cg_of (Int.one_mul _))
  have a2 : Cg p (lx * (inv p ld * D j)) (c * D j) := by
    have e1 : Cg p (lx * (inv p ld * D j)) (c * ld * (inv p ld * D j)) := Cg_mul hL Cg_rf
    have e2 : c * ld * (inv p ld * D j) = c * ((ld * inv p ld) * D j) := by
      rw [Int.mul_assoc, Int.mul_assoc]
    rw [e2] at e1
    exact Cg_tr e1 (Cg_mul Cg_rf (Cg_tr (Cg_mul i2 Cg_rf) (Cg_of (Int.one_mul _))))
  have a3 : Cg p (lx * (inv p lx * X j - inv p ld * D j)) 0 := by
    rw [Int.mul_sub]
    exact Cg_tr (Cg_sub a1 a2) (Cg_of (by omega))
  have a4 := Cg_nz hP (show 0 < lx ∧ lx < p by omega) a3
  refine Cg_eq (Cg_tr (Cg_of ?_) (Cg_tr (Cg_add a4 (Cg_rf (a := inv p ld * D j))) (Cg_of (Int.zero_add _))))
  omega
/-- two that divide each other have the same multiple of LEAD 1 -/
theorem mon_dv {p : Int} {N : Nat} {X D : Int → Int} (hP : IsP p) (hX : SR p N X) (hD : SR p N D) (h1 : Dv p D X) (h2 : Dv p X D) (j : Int) : (inv p (X (plen X N - 1)) * X j) % p = (inv p (D (plen D N - 1)) * D j) % p := by
  have bX := plen_bd X N
  have bD := plen_bd D N
  by_cases c : 0 < plen X N
  · obtain ⟨g1, g2, g3⟩ := Dv_len hP hD hX h1 c
    obtain ⟨f1, f2, f3⟩ := Dv_len hP hX hD h2 g1
    obtain ⟨k, hk, he⟩ := g3 (by omega)
    exact mon_eq hP hX hD c (by omega) hk he j
  · by_cases d : 0 < plen D N
    · exact absurd (Dv_len hP hX hD h2 d).1 c
    · have zX : X j = 0 := Sup_z hX.1 (by omega)
      have zD : D j = 0 := Sup_z hD.1 (by omega)
      rw [zX, zD, Int.mul_zero, Int.mul_zero]
theorem SR_up {p : Int} {N M : Nat} {xs : Int → Int} (h : SR p N xs) (hN : N ≤ M) : SR p M xs := ⟨Sup_up h.1 hN, h.2⟩
theorem SR_zn {p : Int} {N : Nat} {xs : Int → Int} (h : SR p N xs) : Zn xs := fun j hj => h.1 j (Or.inl hj)
/-- the last of the class's way and of the Model's divide each other -/
theorem eu_mu {p : Int} {a b : Int → Int} {k t : Nat} (hP : IsP p) (ha : SR p 32 a) (hb : SR p 32 b) (h1 : ∀ s : Nat, s < k → 0 < plen (eu p b a s).2.1 64) (h2 : plen (eu p b a k).2.1 64 ≤ 0) (h3 : ∀ s : Nat, s < t → 0 < plen (mu p a b s).2.1 80) (h4 : plen (mu p a b t).2.1 80 = 0) (j : Int) : (inv p ((eu p b a k).1 (plen (eu p b a k).1 64 - 1)) * (eu p b a k).1 j) % p = (inv p ((mu p a b t).1 (plen (mu p a b t).1 80 - 1)) * (mu p a b t).1 j) % p := by
  have a64 := SR_up ha (show 32 ≤ 64 by decide)
  have b64 := SR_up hb (show 32 ≤ 64 by decide)
  have a80 := SR_up ha (show 32 ≤ 80 by decide)
  have b80 := SR_up hb (show 32 ≤ 80 by decide)
  have la : plen a 64 ≤ 64 := (plen_bd a 64).2
  have lb : plen b 64 ≤ 64 := (plen_bd b 64).2
  have la' : plen a 80 ≤ 80 := (plen_bd a 80).2
  have lb' : plen b 80 ≤ 80 := (plen_bd b 80).2
  have IE := (eu_I hP (Int.le_refl 64) b64 a64 lb la k h1).1
  have IM := (mu_I hP (Int.le_refl 80) a80 b80 la' lb' t h3).1
  have zE : ∀ i : Int, (eu p b a k).2.1 i = 0 := fun i => Sup_z IE.2.1.1 (by have := plen_bd (eu p b a k).2.1 64; omega)
  have zM : ∀ i : Int, (mu p a b t).2.1 i = 0 := fun i => Sup_z IM.2.1.1 (by omega)
  have dE := fun (D : Int → Int) (hD : Zn D) => eu_Dv (D := D) hP (Int.le_refl 64) b64 a64 lb la hD k h1
  have dM := fun (D : Int → Int) (hD : Zn D) => mu_Dv (D := D) hP (Int.le_refl 80) a80 b80 la' lb' hD t h3
  have E1 := (dE _ (SR_zn IE.1)).mpr ⟨Dv_rf (SR_zn IE.1), Dv_pz zE⟩
  have M1 := (dM _ (SR_zn IM.1)).mpr ⟨Dv_rf (SR_zn IM.1), Dv_pz zM⟩
  have EM : Dv p (eu p b a k).1 (mu p a b t).1 := ((dM _ (SR_zn IE.1)).mp ⟨E1.2, E1.1⟩).1
  have ME : Dv p (mu p a b t).1 (eu p b a k).1 := ((dE _ (SR_zn IM.1)).mp ⟨M1.2, M1.1⟩).1
  have e := mon_dv hP (SR_up IE.1 (show 64 ≤ 80 by decide)) IM.1 ME EM j
  rw [plen_more IE.1.1 (show 64 ≤ 80 by decide)] at e
  exact e
