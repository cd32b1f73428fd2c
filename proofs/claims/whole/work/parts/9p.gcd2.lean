/-! gcd: as the contracts say it -/
theorem eu_le {p M : Int} {a b : Int → Int} (hP : IsP p) (hM : M ≤ 64) (ha : SR p 64 a) (hb : SR p 64 b) (la : plen a 64 ≤ M) (lb : plen b 64 ≤ M) : ∀ t : Nat, (∀ s : Nat, s < t → 0 < plen (eu p a b s).2.1 64) → plen (eu p a b t).1 64 ≤ M ∧ plen (eu p a b t).2.1 64 ≤ M
  | 0, _ => ⟨la, lb⟩
  | t + 1, h => by
    obtain ⟨h1, h2⟩ := eu_le hP hM ha hb la lb t (fun s hs => h s (by omega))
    have hI := (eu_I hP hM ha hb la lb t (fun s hs => h s (by omega))).1
    obtain ⟨-, g2, -⟩ := est_I (N := 64) hP (show M ≤ ((64 : Nat) : Int) by omega) hI (h t (by omega))
    exact ⟨show plen (est p 64 (eu p a b t)).1 64 ≤ M from h2, show plen (est p 64 (eu p a b t)).2.1 64 ≤ M by omega⟩
theorem gcd_eq {p : Int} {a b : Int → Int} {k t : Nat} (hP : IsP p) (ha : SR p 32 a) (hb : SR p 32 b) (h1 : ∀ s : Nat, s < k → 0 < plen (eu p b a s).2.1 64) (h2 : plen (eu p b a k).2.1 64 ≤ 0) (h3 : ∀ s : Nat, s < t → 0 < plen (mu p a b s).2.1 80) (h4 : plen (mu p a b t).2.1 80 = 0) : clip 32 (pscl p (eu p b a k).1 (eu p b a k).1) = pscal p (inv p ((mu p a b t).1 (plen (mu p a b t).1 80 - 1))) (mu p a b t).1 ∧ Sup (pscl p (eu p b a k).1 (eu p b a k).1) 32 := by
  have hpb := hP.bd
  have a64 := SR_up ha (show 32 ≤ 64 by decide)
  have b64 := SR_up hb (show 32 ≤ 64 by decide)
  have la : plen a 64 ≤ 32 := by rw [plen_more ha.1 (by decide)]; exact (plen_bd a 32).2
  have lb : plen b 64 ≤ 32 := by rw [plen_more hb.1 (by decide)]; exact (plen_bd b 32).2
  have hle := (eu_le hP (by decide) b64 a64 lb la k h1).1
  have IE := (eu_I hP (show (32 : Int) ≤ 64 by decide) b64 a64 lb la k h1).1
  have hs : Sup (pscl p (eu p b a k).1 (eu p b a k).1) 32 := by
    unfold pscl
    refine padd_S (Red_pz (by omega)) Sup_pz (fun j hj => Sup_z IE.1.1 ?_)
    omega
  refine ⟨?_, hs⟩
  rw [clip_id hs]
  funext j
  show (0 + inv p ((eu p b a k).1 (plen (eu p b a k).1 64 - 1)) * (eu p b a k).1 (j - 0)) % p = ((mu p a b t).1 j * inv p ((mu p a b t).1 (plen (mu p a b t).1 80 - 1))) % p
  rw [Int.zero_add, Int.sub_zero, Int.mul_comm ((mu p a b t).1 j)]
  exact eu_mu hP ha hb h1 h2 h3 h4 j
