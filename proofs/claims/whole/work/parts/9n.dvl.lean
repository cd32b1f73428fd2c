/-! a divisor of the same length is a multiple -/
theorem Dv_len {p : Int} {N : Nat} {D X : Int → Int} (hP : IsP p) (hD : SR p N D) (hX : SR p N X) (h : Dv p D X) (hl : 0 < plen X N) : 0 < plen D N ∧ plen D N ≤ plen X N ∧ (plen D N = plen X N → ∃ c : Int, (0 < c ∧ c < p) ∧ ∀ j : Int, X j = (c * D j) % p) := by
  have hpb := hP.bd
  obtain ⟨q, ⟨zq, L, hL⟩, hq⟩ := h
  have hq' : ∀ j : Int, Cg p (conv (fun j => q j % p) D j) (X j) := fun j => Cg_tr (conv_cg (fun _ => Cg_em) (fun _ => Cg_rf)) (hq j)
  have rq : Red p (fun j => q j % p) := fun j => em_bd (by omega)
  have sq : Sup (fun j => q j % p) L.toNat := fun j hj => by
    show q j % p = 0
    by_cases c : j < 0
    · rw [zq j c]; rfl
    · rw [hL j (by omega)]; rfl
  generalize (fun j => q j % p) = Q at hq' rq sq
  have hXl := plen_lead hl
  have hXr := hX.2 (plen X N - 1)
  have nz : ¬ (∀ j : Int, Cg p (X j) 0) := fun z => hXl (Cg_z (z _) hXr)
  have hK : 0 < plen Q L.toNat := by
    have hb := plen_bd Q L.toNat
    by_cases c : 0 < plen Q L.toNat
    · exact c
    · refine absurd (fun j => ?_) nz
      have e : conv Q D j = 0 := by
        have hz : ∀ i : Int, Q i = 0 := fun i => Sup_z sq (by omega)
        unfold conv
        exact csum_zero (fun i _ _ => by show Q i * D (j - i) = 0; rw [hz, Int.zero_mul])
      have := hq' j
      rw [e] at this
      exact Cg_sy this
  have hm : 0 < plen D N := by
    have hb := plen_bd D N
    by_cases c : 0 < plen D N
    · exact c
    · refine absurd (fun j => ?_) nz
      have e : conv Q D j = 0 := by
        have hz : ∀ i : Int, D i = 0 := fun i => Sup_z hD.1 (by omega)
        unfold conv
        exact csum_zero (fun i _ _ => by show Q i * D (j - i) = 0; rw [hz, Int.mul_zero])
      have := hq' j
      rw [e] at this
      exact Cg_sy this
  have ht := conv_top (d := Q) (b := D) (k := plen Q L.toNat - 1) (m := plen D N) (fun j hj => Sup_z sq (by omega)) (fun j hj => Sup_z hD.1 (by omega)) (by omega) (by omega)
  have hQl := plen_lead hK
  have hQr := rq (plen Q L.toNat - 1)
  have hDl := plen_lead hm
  have hDr := hD.2 (plen D N - 1)
  have hne : X (plen Q L.toNat - 1 + plen D N - 1) ≠ 0 := fun z => by
    have e := hq' (plen Q L.toNat - 1 + plen D N - 1)
    rw [ht, z] at e
    have e2 := Cg_nz hP (show 0 < Q (plen Q L.toNat - 1) ∧ Q (plen Q L.toNat - 1) < p by omega) e
    exact hDl (Cg_z e2 hDr)
  have hlt := plen_gt hX.1 hne
  refine ⟨hm, by omega, fun he => ?_⟩
  have hK1 : plen Q L.toNat = 1 := by omega
  rw [hK1] at hQl hQr
  refine ⟨Q 0, ⟨?_, ?_⟩, fun j => ?_⟩
  · have : Q (1 - 1) = Q 0 := rfl
    omega
  · exact (rq 0).2
  · have eQ : Q = iup pz 0 (Q 0) := by
      funext i
      by_cases c : i = 0
      · rw [c, iup_at]
      · rw [iup_ne c]
        show Q i = 0
        exact Sup_z sq (by omega)
    have e := conv_iup (q := pz) (b := D) (i := 0) (f := Q 0) (j := j) rfl (by decide) (fun k hk => hD.1 k (Or.inl hk))
    rw [← eQ, conv_pz, Int.zero_add, show j - 0 = j by omega] at e
    have e2 := hq' j
    rw [e] at e2
    have e3 := Cg_eq e2
    rw [e3]
    have := hX.2 j
    exact (Int.emod_eq_of_lt this.1 this.2).symm
