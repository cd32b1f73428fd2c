/-! Euclid's way keeps to its room -/
noncomputable def est (p : Int) (N : Nat) (x : QD) : QD := (x.2.1, (pdiv p x.1 x.2.1 (plen x.1 N) (plen x.2.1 N)).2, x.2.2.2, padd p x.2.2.1 (-1) (pmul p (pdiv p x.1 x.2.1 (plen x.1 N) (plen x.2.1 N)).1 x.2.2.2) 0)
def SR (p : Int) (N : Nat) (xs : Int → Int) : Prop := Sup xs N ∧ Red p xs
def EuI (p : Int) (N : Nat) (M : Int) (x : QD) : Prop := SR p N x.1 ∧ SR p N x.2.1 ∧ SR p N x.2.2.1 ∧ SR p N x.2.2.2 ∧ plen x.2.2.2 N + plen x.1 N ≤ M + 1 ∧ plen x.2.2.1 N + plen x.2.1 N ≤ M + 1 ∧ plen x.2.2.2 N + plen x.2.1 N ≤ M + 1
theorem Sup_z {xs : Int → Int} {N : Nat} (h : Sup xs N) {j : Int} (hj : j < 0 ∨ plen xs N ≤ j) : xs j = 0 := by
  by_cases c : j < 0
  · exact h j (Or.inl c)
  · exact Sup_len h (by omega)
theorem pmul_z {p i : Int} {a b : Int → Int} (h : (∀ j : Int, a j = 0) ∨ ∀ j : Int, b j = 0) : pmul p a b i = 0 := by
  unfold pmul conv
  have e : csum (fun j => a j * b (i - j)) (i + 1).toNat = 0 := csum_zero (fun j _ _ => by
    show a j * b (i - j) = 0
    rcases h with h | h
    · rw [h, Int.zero_mul]
    · rw [h, Int.mul_zero])
  rw [e]; rfl
theorem est_I {p M : Int} {N : Nat} {x : QD} (hP : IsP p) (hM : M ≤ N) (h : EuI p N M x) (hw : 0 < plen x.2.1 N) : EuI p N M (est p N x) ∧ plen (est p N x).2.1 N ≤ plen x.2.1 N - 1 ∧ plen (pdiv p x.1 x.2.1 (plen x.1 N) (plen x.2.1 N)).1 N + plen x.2.2.2 N ≤ M + 1 := by
  obtain ⟨o, w, f, v⟩ := x
  obtain ⟨⟨so, ro⟩, ⟨sw, rw_⟩, ⟨sf, rf⟩, ⟨sv, rv_⟩, hA, hB, hC⟩ := h
  have hpb := hP.bd
  have hw' : 0 < plen w N := hw
  have bo := plen_bd o N
  have bw_ := plen_bd w N
  have bf := plen_bd f N
  have bv := plen_bd v N
  have hA' : plen v N + plen o N ≤ M + 1 := hA
  have hB' : plen f N + plen w N ≤ M + 1 := hB
  have hC' : plen v N + plen w N ≤ M + 1 := hC
  have so : Sup o N := so
  have sw : Sup w N := sw
  have sf : Sup f N := sf
  have sv : Sup v N := sv
  have ro : Red p o := ro
  have rw_ : Red p w := rw_
  have rf : Red p f := rf
  have rv_ : Red p v := rv_
  have hD : DivS p o w (pdiv p o w (plen o N) (plen w N)).1 (pdiv p o w (plen o N) (plen w N)).2 (plen o N) (plen w N) := pdiv_S hP hw' ro (fun j hj => Sup_z so hj) rw_ (fun j hj => Sup_z sw hj) (plen_lead hw')
  show EuI p N M (w, (pdiv p o w (plen o N) (plen w N)).2, v, padd p f (-1) (pmul p (pdiv p o w (plen o N) (plen w N)).1 v) 0) ∧ plen (pdiv p o w (plen o N) (plen w N)).2 N ≤ plen w N - 1 ∧ plen (pdiv p o w (plen o N) (plen w N)).1 N + plen v N ≤ M + 1
  generalize (pdiv p o w (plen o N) (plen w N)).1 = q at hD ⊢
  generalize (pdiv p o w (plen o N) (plen w N)).2 = r at hD ⊢
  obtain ⟨d1, d2, d3, d4, d5⟩ := hD
  have lr : plen r N ≤ plen w N - 1 := plen_le (by omega) (fun j hj _ => d4 j (by omega))
  have sr : Sup r N := fun j hj => d4 j (by omega)
  have lq : plen q N + plen v N ≤ M + 1 := by
    by_cases c : plen o N - plen w N + 1 ≤ 0
    · have : plen q N ≤ 0 := plen_le (Int.le_refl _) (fun j hj _ => d5 j (by omega))
      omega
    · have : plen q N ≤ plen o N - plen w N + 1 := plen_le (by omega) (fun j hj _ => d5 j (by omega))
      omega
  have hpz : ∀ j : Int, (j < 0 ∨ M + 1 - plen w N ≤ j) → pmul p q v j = 0 := fun j hj => by
    by_cases c : plen o N - plen w N + 1 ≤ 0
    · by_cases cj : j < 0
      · exact pmul_out (la := plen o N + 1) (lb := plen v N) (fun i hi => d5 i (by omega)) (fun i hi => Sup_z sv (by omega)) (Or.inl cj)
      · exact pmul_z (Or.inl (fun i => by
          by_cases ci : i < 0
          · exact d5 i (Or.inl ci)
          · exact d5 i (by omega)))
    · by_cases cv : plen v N = 0
      · exact pmul_z (Or.inr (fun i => Sup_z sv (by omega)))
      · exact pmul_out (la := plen o N - plen w N + 1) (lb := plen v N) (fun i hi => d5 i (by omega)) (fun i hi => Sup_z sv (by omega)) (by omega)
  have hvz : ∀ j : Int, (j < 0 ∨ M + 1 - plen w N ≤ j) → padd p f (-1) (pmul p q v) 0 j = 0 := fun j hj => by
    rw [padd_out rf (hpz (j - 0) (by omega))]
    exact Sup_z sf (by omega)
  have lv : plen (padd p f (-1) (pmul p q v) 0) N ≤ M + 1 - plen w N := plen_le (by omega) (fun j hj _ => hvz j (Or.inr hj))
  exact ⟨⟨⟨sw, rw_⟩, ⟨sr, d2⟩, ⟨sv, rv_⟩, ⟨fun j hj => hvz j (by omega), padd_red (by omega)⟩, show plen (padd p f (-1) (pmul p q v) 0) N + plen w N ≤ M + 1 by omega, show plen v N + plen r N ≤ M + 1 by omega, show plen (padd p f (-1) (pmul p q v) 0) N + plen r N ≤ M + 1 by omega⟩, lr, lq⟩
theorem plen_one {N : Nat} : plen one N ≤ 1 := plen_le (by decide) (fun j hj _ => (iup_ne (by omega)).trans rfl)
theorem eu_I {p M : Int} {a b : Int → Int} (hP : IsP p) (hM : M ≤ 64) (ha : SR p 64 a) (hb : SR p 64 b) (la : plen a 64 ≤ M) (lb : plen b 64 ≤ M) : ∀ t : Nat, (∀ s : Nat, s < t → 0 < plen (eu p a b s).2.1 64) → EuI p 64 M (eu p a b t) ∧ (plen (eu p a b t).2.1 64 ≤ plen b 64 - t)
  | 0, _ => by
    have hpb := hP.bd
    have h1 := plen_one (N := 64)
    have h2 := plen_pz 64
    exact ⟨⟨ha, hb, ⟨Sup_pz, Red_pz (by omega)⟩, ⟨one_sup (by decide), one_red hP⟩, show plen one 64 + plen a 64 ≤ M + 1 by omega, show plen pz 64 + plen b 64 ≤ M + 1 by omega, show plen one 64 + plen b 64 ≤ M + 1 by omega⟩, show plen b 64 ≤ plen b 64 - ((0 : Nat) : Int) by omega⟩
  | t + 1, h => by
    obtain ⟨h1, h2⟩ := eu_I hP hM ha hb la lb t (fun s hs => h s (by omega))
    obtain ⟨g1, g2, -⟩ := est_I (N := 64) hP (show M ≤ ((64 : Nat) : Int) by omega) h1 (h t (by omega))
    exact ⟨g1, show plen (est p 64 (eu p a b t)).2.1 64 ≤ plen b 64 - ((t + 1 : Nat) : Int) by omega⟩
/-- the room that the class's contracts ask for -/
theorem eu_room {p M bd : Int} {a b : Int → Int} (hP : IsP p) (hM : M ≤ 63) (ha : SR p 64 a) (hb : SR p 64 b) (la : plen a 64 ≤ M) (lb : plen b 64 ≤ M) (hbd : 0 ≤ bd) : ∀ t : Nat, (∀ s : Nat, s ≤ t → bd < plen (eu p a b s).2.1 64) → t ≤ 62 ∧ plen (pdiv p (eu p a b t).1 (eu p a b t).2.1 (plen (eu p a b t).1 64) (plen (eu p a b t).2.1 64)).1 64 + plen (eu p a b t).2.2.2 64 ≤ 65 := fun t h => by
  obtain ⟨h1, h2⟩ := eu_I hP (show M ≤ 64 by omega) ha hb la lb t (fun s hs => by have := h s (by omega); omega)
  have h0 := h t (Nat.le_refl _)
  obtain ⟨-, -, g3⟩ := est_I (N := 64) hP (show M ≤ ((64 : Nat) : Int) by omega) h1 (by omega)
  exact ⟨by omega, by omega⟩
theorem mu_I {p M : Int} {a b : Int → Int} (hP : IsP p) (hM : M ≤ 80) (ha : SR p 80 a) (hb : SR p 80 b) (la : plen a 80 ≤ M) (lb : plen b 80 ≤ M) : ∀ t : Nat, (∀ s : Nat, s < t → 0 < plen (mu p a b s).2.1 80) → EuI p 80 M (mu p a b t) ∧ (plen (mu p a b t).2.1 80 ≤ plen b 80 - t)
  | 0, _ => by
    have hpb := hP.bd
    have h1 := plen_one (N := 80)
    have h2 := plen_pz 80
    exact ⟨⟨ha, hb, ⟨one_sup (by decide), one_red hP⟩, ⟨Sup_pz, Red_pz (by omega)⟩, show plen pz 80 + plen a 80 ≤ M + 1 by omega, show plen one 80 + plen b 80 ≤ M + 1 by omega, show plen pz 80 + plen b 80 ≤ M + 1 by omega⟩, show plen b 80 ≤ plen b 80 - ((0 : Nat) : Int) by omega⟩
  | t + 1, h => by
    obtain ⟨h1, h2⟩ := mu_I hP hM ha hb la lb t (fun s hs => h s (by omega))
    obtain ⟨g1, g2, -⟩ := est_I (N := 80) hP (show M ≤ ((80 : Nat) : Int) by omega) h1 (h t (by omega))
    exact ⟨g1, show plen (est p 80 (mu p a b t)).2.1 80 ≤ plen b 80 - ((t + 1 : Nat) : Int) by omega⟩
/-- the room that the Model's contracts ask for -/
theorem mu_room {p M : Int} {a b : Int → Int} (hP : IsP p) (hM : M ≤ 80) (ha : SR p 80 a) (hb : SR p 80 b) (la : plen a 80 ≤ M) (lb : plen b 80 ≤ M) : ∀ t : Nat, (∀ s : Nat, s ≤ t → 0 < plen (mu p a b s).2.1 80) → plen (pdiv p (mu p a b t).1 (mu p a b t).2.1 (plen (mu p a b t).1 80) (plen (mu p a b t).2.1 80)).1 80 + plen (mu p a b t).2.2.2 80 ≤ 81 := fun t h => by
  obtain ⟨h1, h2⟩ := mu_I hP hM ha hb la lb t (fun s hs => h s (by omega))
  obtain ⟨-, -, g3⟩ := est_I (N := 80) hP (show M ≤ ((80 : Nat) : Int) by omega) h1 (h t (Nat.le_refl _))
  omega
