/-! both sides' factors: f times a is the last number's row, but for a multiple of b -/
theorem Cb_0 {p : Int} {a b : Int → Int} (hb : Zn b) : Cb p b a pz b := ⟨one, Fs_sup (one_sup (N := 1) (by decide)), fun j => Cg_of (by rw [conv_pz, conv_one hb, Int.zero_add])⟩
theorem Cb_1 {p : Int} {a b : Int → Int} (ha : Zn a) : Cb p b a one a := ⟨pz, ⟨fun _ _ => rfl, 0, fun _ _ => rfl⟩, fun j => Cg_of (by rw [conv_pz, conv_one ha, Int.add_zero])⟩
theorem est_Cb {p M : Int} {N : Nat} {x : QD} {a b : Int → Int} (hP : IsP p) (ha : Zn a) (hb : Zn b) (h : EuI p N M x) (hw : 0 < plen x.2.1 N) (h1 : Cb p b a x.2.2.1 x.1) (h2 : Cb p b a x.2.2.2 x.2.1) : Cb p b a (est p N x).2.2.1 (est p N x).1 ∧ Cb p b a (est p N x).2.2.2 (est p N x).2.1 := by
  have hS := pdiv_S hP hw h.1.2 (fun j hj => Sup_z h.1.1 hj) h.2.1.2 (fun j hj => Sup_z h.2.1.1 hj) (plen_lead hw)
  refine ⟨h2, Cb_step ⟨fun j hj => hS.2.2.2.2 j (Or.inl hj), plen x.1 N - plen x.2.1 N + 1, fun j hj => hS.2.2.2.2 j (Or.inr (by omega))⟩ ha hb (SR_zn h.2.2.2.1) h1 h2 hS.2.2.1 (fun j => ?_)⟩
  show Cg p ((x.2.2.1 j + (-1) * pmul p (pdiv p x.1 x.2.1 (plen x.1 N) (plen x.2.1 N)).1 x.2.2.2 (j - 0)) % p) _
  rw [Int.sub_zero]
  exact Cg_tr Cg_em (Cg_add Cg_rf (Cg_mul Cg_rf Cg_em))
theorem eu_Cb {p M : Int} {a b : Int → Int} (hP : IsP p) (hM : M ≤ 64) (ha : SR p 64 a) (hb : SR p 64 b) (la : plen a 64 ≤ M) (lb : plen b 64 ≤ M) : ∀ t : Nat, (∀ s : Nat, s < t → 0 < plen (eu p b a s).2.1 64) → Cb p b a (eu p b a t).2.2.1 (eu p b a t).1 ∧ Cb p b a (eu p b a t).2.2.2 (eu p b a t).2.1
  | 0, _ => ⟨Cb_0 (SR_zn hb), Cb_1 (SR_zn ha)⟩
  | t + 1, h => by
    obtain ⟨g1, g2⟩ := eu_Cb hP hM ha hb la lb t (fun s hs => h s (by omega))
    exact est_Cb (N := 64) hP (SR_zn ha) (SR_zn hb) (eu_I hP hM hb ha lb la t (fun s hs => h s (by omega))).1 (h t (by omega)) g1 g2
theorem mu_Cb {p M : Int} {a b : Int → Int} (hP : IsP p) (hM : M ≤ 80) (ha : SR p 80 a) (hb : SR p 80 b) (la : plen a 80 ≤ M) (lb : plen b 80 ≤ M) : ∀ t : Nat, (∀ s : Nat, s < t → 0 < plen (mu p a b s).2.1 80) → Cb p b a (mu p a b t).2.2.1 (mu p a b t).1 ∧ Cb p b a (mu p a b t).2.2.2 (mu p a b t).2.1
  | 0, _ => ⟨Cb_1 (SR_zn ha), Cb_0 (SR_zn hb)⟩
  | t + 1, h => by
    obtain ⟨g1, g2⟩ := mu_Cb hP hM ha hb la lb t (fun s hs => h s (by omega))
    exact est_Cb (N := 80) hP (SR_zn ha) (SR_zn hb) (mu_I hP hM ha hb la lb t (fun s hs => h s (by omega))).1 (h t (by omega)) g1 g2
