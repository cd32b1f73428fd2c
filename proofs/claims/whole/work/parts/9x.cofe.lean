/-! cofactor: both sides the same -/
theorem plen_iff {xs ys : Int → Int} {N : Nat} (h : ∀ j : Int, 0 ≤ j → j < N → (xs j = 0 ↔ ys j = 0)) : plen xs N = plen ys N := by
  have hb := plen_bd ys N
  refine plen_eq hb.1 hb.2 (fun j h1 h2 => (h j (by omega) h2).mpr (plen_zero h1 h2)) ?_
  by_cases h0 : plen ys N = 0
  · exact Or.inl h0
  · exact Or.inr (fun z => plen_lead (xs := ys) (N := N) (by omega) ((h _ (by omega) (by omega)).mp z))
theorem conv_mulr {a b : Int → Int} {i f : Int} : conv a (fun j => f * b j) i = f * conv a b i := by
  unfold conv
  rw [← csum_mul]
  refine csum_congr (fun j _ _ => ?_)
  show a j * (f * b (i - j)) = f * (a j * b (i - j))
  exact Int.mul_left_comm _ _ _
theorem Fs_pz : Fs pz := ⟨fun _ _ => rfl, 0, fun _ _ => rfl⟩
theorem SR_fs {p : Int} {N : Nat} {xs : Int → Int} (h : SR p N xs) : Fs xs := Fs_sup h.1
theorem DivS_fs {p la lb : Int} {a b q r : Int → Int} (h : DivS p a b q r la lb) : Fs q ∧ Fs r := ⟨⟨fun j hj => h.2.2.2.2 j (Or.inl hj), la - lb + 1, fun j hj => h.2.2.2.2 j (Or.inr (by omega))⟩, ⟨fun j hj => h.2.2.2.1 j (Or.inl hj), lb - 1, fun j hj => h.2.2.2.1 j (Or.inr hj)⟩⟩
theorem pdv {p : Int} {N : Nat} {a b : Int → Int} (hP : IsP p) (ha : SR p N a) (hb : SR p N b) (hl : 0 < plen b N) : DivS p a b (pdiv p a b (plen a N) (plen b N)).1 (pdiv p a b (plen a N) (plen b N)).2 (plen a N) (plen b N) := pdiv_S hP hl ha.2 (fun j hj => Sup_z ha.1 hj) hb.2 (fun j hj => Sup_z hb.1 hj) (plen_lead hl)
/-- one rest alone -/
theorem Rst_uq {p : Int} {N : Nat} {C F x y r r' : Int → Int} (hP : IsP p) (hC : SR p N C) (hm : 0 < plen C N) (hx : Fs x) (hy : Fs y) (hr : Red p r) (hr' : Red p r') (zr : ∀ j : Int, (j < 0 ∨ plen C N - 1 ≤ j) → r j = 0) (zr' : ∀ j : Int, (j < 0 ∨ plen C N - 1 ≤ j) → r' j = 0) (e : ∀ j : Int, Cg p (conv x C j + r j) (F j)) (e' : ∀ j : Int, Cg p (conv y C j + r' j) (F j)) : r = r' := by
  have hpb := hP.bd
  have hb := plen_bd C N
  have zX : ∀ j : Int, (j < 0 ∨ plen C N - 1 ≤ j) → (fun j => (r j - r' j) % p) j = 0 := fun j hj => by
    show (r j - r' j) % p = 0
    rw [zr j hj, zr' j hj]; rfl
  have hX : SR p N (fun j => (r j - r' j) % p) := ⟨fun j hj => zX j (by omega), fun j => em_bd (by omega)⟩
  have hD : Dv p C (fun j => (r j - r' j) % p) := ⟨fun j => y j + (-1) * x j, Fs_add hy (Fs_mul hx), fun j => by
    have e1 : conv (fun j => y j + (-1) * x j) C j = conv y C j + (-1) * conv x C j := by
      rw [conv_addl, conv_mull]
    rw [e1]
    have e2 := Cg_sub (e' j) (e j)
    have e3 : Cg p (conv y C j + (-1) * conv x C j) (r j - r' j) := by
      have e4 := Cg_add e2 (Cg_rf (a := r j - r' j))
      exact Cg_tr (Cg_of (by omega)) (Cg_tr e4 (Cg_of (by omega)))
    exact Cg_tr e3 (Cg_sy Cg_em)⟩
  have hl : plen (fun j => (r j - r' j) % p) N ≤ plen C N - 1 := plen_le (by omega) (fun j hj _ => zX j (Or.inr hj))
  have h0 := plen_bd (fun j => (r j - r' j) % p) N
  have hz : plen (fun j => (r j - r' j) % p) N = 0 := by
    by_cases c : 0 < plen (fun j => (r j - r' j) % p) N
    · have := (Dv_len hP hC hX hD c).2.1
      omega
    · omega
  funext j
  have e0 : (r j - r' j) % p = 0 := Sup_z (xs := fun j => (r j - r' j) % p) hX.1 (by omega)
  have e1 : Cg p (r j - r' j) 0 := by rw [Cg_iff, e0]; rfl
  have e2 := Cg_add e1 (Cg_rf (a := r' j))
  exact Cg_lt (Cg_tr (Cg_of (by omega)) (Cg_tr e2 (Cg_of (by omega)))) (hr j) (hr' j)
theorem Dv_unit {p c : Int} {D E X : Int → Int} (h : ∀ j : Int, Cg p (D j) (c * E j)) (hD : Dv p D X) : Dv p E X := by
  obtain ⟨q, fq, cq⟩ := hD
  refine ⟨fun j => c * q j, Fs_mul fq, fun j => ?_⟩
  rw [conv_mull]
  refine Cg_tr ?_ (cq j)
  rw [← conv_mulr]
  exact conv_cg (fun _ => Cg_rf) (fun i => Cg_sy (h i))
theorem Cb_scal {p c : Int} {a b f o f' o' : Int → Int} (h : Cb p b a f o) (hf : ∀ j : Int, Cg p (f' j) (c * f j)) (ho : ∀ j : Int, Cg p (o' j) (c * o j)) : Cb p b a f' o' := by
  obtain ⟨s, fs, cs⟩ := h
  refine ⟨fun j => c * s j, Fs_mul fs, fun j => ?_⟩
  have e1 : Cg p (conv f' a j) (c * conv f a j) := by
    rw [← conv_mull]
    exact conv_cg hf (fun _ => Cg_rf)
  rw [conv_mull]
  have e2 : Cg p (c * (conv f a j + conv s b j)) (c * o j) := Cg_mul Cg_rf (cs j)
  rw [Int.mul_add] at e2
  exact Cg_tr (Cg_add e1 Cg_rf) (Cg_tr e2 (Cg_sy (ho j)))
/-- a divisor's QUOTIENT leaves nothing -/
theorem Dv_quo {p : Int} {N : Nat} {D X : Int → Int} (hP : IsP p) (hD : SR p N D) (hX : SR p N X) (hl : 0 < plen D N) (h : Dv p D X) : ∀ j : Int, Cg p (conv (pdiv p X D (plen X N) (plen D N)).1 D j) (X j) := by
  have hpb := hP.bd
  have hS := pdv hP hX hD hl
  obtain ⟨q, fq, cq⟩ := h
  have e := Rst_uq hP hD hl (DivS_fs hS).1 fq hS.2.1 (Red_pz (by omega)) hS.2.2.2.1 (fun _ _ => rfl) hS.2.2.1 (fun j => Cg_tr (Cg_of (Int.add_zero _)) (cq j))
  intro j
  have e2 := hS.2.2.1 j
  rw [e] at e2
  exact Cg_tr (Cg_of (Int.add_zero _).symm) e2
theorem quo_pos {p : Int} {N : Nat} {D X : Int → Int} (hP : IsP p) (hD : SR p N D) (hX : SR p N X) (hl : 0 < plen D N) (h : Dv p D X) (hx : 0 < plen X N) : SR p N (pdiv p X D (plen X N) (plen D N)).1 ∧ 0 < plen (pdiv p X D (plen X N) (plen D N)).1 N := by
  have hS := pdv hP hX hD hl
  have hq := Dv_quo hP hD hX hl h
  have b1 := plen_bd X N
  have hs : SR p N (pdiv p X D (plen X N) (plen D N)).1 := ⟨fun j hj => hS.2.2.2.2 j (by omega), hS.1⟩
  generalize (pdiv p X D (plen X N) (plen D N)).1 = q at hs hq ⊢
  refine ⟨hs, ?_⟩
  have b2 := plen_bd q N
  by_cases c : 0 < plen q N
  · exact c
  · have e : conv q D (plen X N - 1) = 0 := by
      have hz : ∀ i : Int, q i = 0 := fun i => Sup_z hs.1 (by omega)
      unfold conv
      exact csum_zero (fun i _ _ => by show q i * D (plen X N - 1 - i) = 0; rw [hz, Int.zero_mul])
    have e2 := hq (plen X N - 1)
    rw [e] at e2
    exact absurd (Cg_z (Cg_sy e2) (hX.2 _)) (plen_lead hx)
theorem scal_cg {p M : Int} {l f : Int} (_h : l = l) : Cg p (M * f % p) (f * M) := Cg_tr Cg_em (Cg_of (Int.mul_comm _ _))
/-- the monic multiple -/
theorem mG_ok {p : Int} {a b : Int → Int} {t : Nat} (hP : IsP p) (ha : SR p 32 a) (hb : SR p 32 b) (hT : MuT p a b t) (hl : 0 < plen b 80) : SR p 80 (mG p a b t) ∧ 0 < plen (mu p a b t).1 80 ∧ plen (mG p a b t) 80 = plen (mu p a b t).1 80 ∧ Dv p (mG p a b t) a ∧ Dv p (mG p a b t) b ∧ Cb p b a (mU p a b t) (mG p a b t) ∧ SR p 80 (mU p a b t) := by
  have hpb := hP.bd
  obtain ⟨h3, h4⟩ := hT
  have a80 := SR_up ha (show 32 ≤ 80 by decide)
  have b80 := SR_up hb (show 32 ≤ 80 by decide)
  have la' : plen a 80 ≤ 80 := (plen_bd a 80).2
  have lb' : plen b 80 ≤ 80 := (plen_bd b 80).2
  have IM := (mu_I hP (Int.le_refl 80) a80 b80 la' lb' t h3).1
  have zM : ∀ i : Int, (mu p a b t).2.1 i = 0 := fun i => Sup_z IM.2.1.1 (by omega)
  have M1 := (mu_Dv (D := (mu p a b t).1) hP (Int.le_refl 80) a80 b80 la' lb' (SR_zn IM.1) t h3).mpr ⟨Dv_rf (SR_zn IM.1), Dv_pz zM⟩
  have C1 := (mu_Cb hP (Int.le_refl 80) a80 b80 la' lb' t h3).1
  have hM0 := (Dv_len hP IM.1 b80 M1.2 hl).1
  have hU0 : SR p 80 (mu p a b t).2.2.1 := IM.2.2.1
  have hM := IM.1
  unfold mU mG
  generalize (mu p a b t).1 = M at hM M1 C1 hM0 ⊢
  generalize (mu p a b t).2.2.1 = U0 at C1 hU0 ⊢
  rw [if_neg (by omega)]
  have hlead := plen_lead hM0
  have hlr := hM.2 (plen M 80 - 1)
  have hi := inv_cg hP (show 0 < M (plen M 80 - 1) ∧ M (plen M 80 - 1) < p by omega)
  generalize M (plen M 80 - 1) = l at hlead hlr hi ⊢
  have hfb := inv_bd (x := l) hP
  have hGc : ∀ j : Int, Cg p (pscal p (inv p l) M j) (inv p l * M j) := fun j => Cg_tr Cg_em (Cg_of (Int.mul_comm _ _))
  have hUc : ∀ j : Int, Cg p (pscal p (inv p l) U0 j) (inv p l * U0 j) := fun j => Cg_tr Cg_em (Cg_of (Int.mul_comm _ _))
  have hMc : ∀ j : Int, Cg p (M j) (l * pscal p (inv p l) M j) := fun j => by
    have e1 : Cg p (l * pscal p (inv p l) M j) (l * (inv p l * M j)) := Cg_mul Cg_rf (hGc j)
    rw [← Int.mul_assoc] at e1
    exact Cg_sy (Cg_tr e1 (Cg_tr (Cg_mul hi Cg_rf) (Cg_of (Int.one_mul _))))
  have hG : SR p 80 (pscal p (inv p l) M) := ⟨pscal_sup hM.1, fun j => em_bd (by omega)⟩
  refine ⟨hG, hM0, plen_iff (fun j _ _ => ⟨fun z => ?_, fun z => ?_⟩), Dv_unit hMc M1.1, Dv_unit hMc M1.2, Cb_scal C1 hUc hGc, ⟨pscal_sup hU0.1, fun j => em_bd (by omega)⟩⟩
  · have := hMc j
    rw [z, Int.mul_zero] at this
    exact Cg_z this (hM.2 j)
  · unfold pscal
    rw [z, Int.zero_mul]; rfl
/-- the Model's hG -/
theorem mG_pos {p : Int} {a b : Int → Int} {t : Nat} (hP : IsP p) (ha : SR p 32 a) (hb : SR p 32 b) (hT : MuT p a b t) (hl : 0 < plen b 80) : 0 < plen (mG p a b t) 80 ∧ 0 < plen (mC p a b t) 80 := by
  obtain ⟨g1, g2, g3, g4, g5, g6, g7⟩ := mG_ok hP ha hb hT hl
  exact ⟨by omega, (quo_pos hP g1 (SR_up hb (by decide)) (by omega) g5 hl).2⟩
theorem cof_main {p : Int} {a b : Int → Int} {k t : Nat} (hP : IsP p) (ha : SR p 32 a) (hb : SR p 32 b) (h1 : ∀ s : Nat, s < k → 0 < plen (eu p b a s).2.1 64) (h2 : plen (eu p b a k).2.1 64 ≤ 0) (hT : MuT p a b t) (hl : 0 < plen b 64) : clip 32 (cof p b (eu p b a k).1 (eu p b a k).2.2.1) = mX p a b t := by
  have hpb := hP.bd
  have hl80 : 0 < plen b 80 := by rw [plen_more hb.1 (by decide)]; rw [plen_more hb.1 (by decide)] at hl; exact hl
  have a64 := SR_up ha (show 32 ≤ 64 by decide)
  have b64 := SR_up hb (show 32 ≤ 64 by decide)
  have a80 := SR_up ha (show 32 ≤ 80 by decide)
  have b80 := SR_up hb (show 32 ≤ 80 by decide)
  have la : plen a 64 ≤ 64 := (plen_bd a 64).2
  have lb : plen b 64 ≤ 64 := (plen_bd b 64).2
  have lb32 : plen b 64 ≤ 32 := by rw [plen_more hb.1 (by decide)]; exact (plen_bd b 32).2
  have IE := (eu_I hP (Int.le_refl 64) b64 a64 lb la k h1).1
  have hO := eu_O hP (Int.le_refl 64) a64 b64 la lb k h1 h2 hl
  have CE := (eu_Cb hP (Int.le_refl 64) a64 b64 la lb k h1).1
  obtain ⟨g1, g2, g3, g4, g5, g6, g7⟩ := mG_ok hP ha hb hT hl80
  have hGe := gcd_eq hP ha hb h1 h2 hT.1 hT.2
  have zE : ∀ i : Int, (eu p b a k).2.1 i = 0 := fun i => Sup_z IE.2.1.1 (by have := plen_bd (eu p b a k).2.1 64; omega)
  have dE := (eu_Dv (D := (eu p b a k).1) hP (Int.le_refl 64) b64 a64 lb la (SR_zn IE.1) k h1).mpr ⟨Dv_rf (SR_zn IE.1), Dv_pz zE⟩
  have rE := IE.1
  have rF := IE.2.2.1
  rw [clip_id hGe.2] at hGe
  have hGe1 : pscl p (eu p b a k).1 (eu p b a k).1 = mG p a b t := hGe.1
  have eX : mX p a b t = (pdiv p (mU p a b t) (mC p a b t) (plen (mU p a b t) 80) (plen (mC p a b t) 80)).2 := by
    unfold mX mU1
    rw [if_pos hl80, if_neg (by omega)]
  rw [eX]
  have eCm : mC p a b t = (pdiv p b (mG p a b t) (plen b 80) (plen (mG p a b t) 80)).1 := rfl
  have hG0 : 0 < plen (mG p a b t) 80 := by omega
  have qm := quo_pos hP g1 b80 hG0 g5 hl80
  have cm := Dv_quo hP g1 b80 hG0 g5
  rw [← eCm] at qm cm
  unfold cof
  generalize (eu p b a k).1 = E at *
  generalize (eu p b a k).2.2.1 = F0 at *
  generalize mG p a b t = Gm at *
  generalize mU p a b t = U at *
  generalize mC p a b t = Cm at *
  have qc := quo_pos hP rE b64 hO.1 dE.1 hl
  have cc := Dv_quo hP rE b64 hO.1 dE.1
  have lqc : plen (pdiv p b E (plen b 64) (plen E 64)).1 64 ≤ 32 := plen_le (by decide) (fun j hj _ => (pdv hP b64 rE hO.1).2.2.2.2 j (by omega))
  generalize (pdiv p b E (plen b 64) (plen E 64)).1 = Cc at *
  have hEl := plen_lead hO.1
  have hEr := rE.2 (plen E 64 - 1)
  have hi := inv_cg hP (show 0 < E (plen E 64 - 1) ∧ E (plen E 64 - 1) < p by omega)
  have psc : ∀ (X : Int → Int) (j : Int), Cg p (pscl p E X j) (inv p (E (plen E 64 - 1)) * X j) := fun X j => by
    show Cg p ((0 + inv p (E (plen E 64 - 1)) * X (j - 0)) % p) _
    rw [Int.zero_add, Int.sub_zero]
    exact Cg_em
  have hFs : SR p 64 (pscl p E F0) := pscl_ok hP rF.1
  have hCF : Cb p b a (pscl p E F0) Gm := Cb_scal CE (psc F0) (fun j => by rw [← hGe1]; exact psc E j)
  have hEc : ∀ j : Int, Cg p (E j) (E (plen E 64 - 1) * Gm j) := fun j => by
    have e1 : Cg p (E (plen E 64 - 1) * Gm j) (E (plen E 64 - 1) * (inv p (E (plen E 64 - 1)) * E j)) := Cg_mul Cg_rf (by rw [← hGe1]; exact psc E j)
    rw [← Int.mul_assoc] at e1
    exact Cg_sy (Cg_tr e1 (Cg_tr (Cg_mul hi Cg_rf) (Cg_of (Int.one_mul _))))
  generalize E (plen E 64 - 1) = l at *
  generalize pscl p E F0 = Fc at *
  -- the quotients by the two differ by l
  have hCl : ∀ j : Int, Cg p (Cm j) (l * Cc j) := by
    have hz : ∀ i : Int, Cg p (conv (fun j => Cm j + (-l) * Cc j) Gm i) 0 := fun i => by
      rw [conv_addl (a := Cm) (a' := fun j => (-l) * Cc j), conv_mull]
      have e1 : Cg p (conv Cc E i) (l * conv Cc Gm i) := by
        rw [← conv_mulr]
        exact conv_cg (fun _ => Cg_rf) hEc
      have e2 := Cg_sub (cm i) (Cg_tr (Cg_sy e1) (cc i))
      rw [Int.neg_mul]
      exact Cg_tr (Cg_of (by omega)) (Cg_tr e2 (Cg_of (by omega)))
    intro j
    have e := conv_can hP (Fs_add (SR_fs qm.1) (Fs_mul (f := -l) (SR_fs qc.1))) g1 hG0 hz j
    have e2 := Cg_add e (Cg_rf (a := l * Cc j))
    rw [Int.neg_mul] at e2
    exact Cg_tr (Cg_of (by omega)) (Cg_tr e2 (Cg_of (by omega)))
  have hlc : plen Cm 80 = plen Cc 64 := by
    have e1 : plen Cc 80 = plen Cc 64 := plen_more qc.1.1 (by decide)
    rw [← e1]
    refine plen_iff (fun j _ _ => ⟨fun z => ?_, fun z => ?_⟩)
    · have e := hCl j
      rw [z] at e
      exact Cg_z (Cg_nz hP (show 0 < l ∧ l < p by omega) (Cg_sy e)) (qc.1.2 j)
    · have e := hCl j
      rw [z, Int.mul_zero] at e
      exact Cg_z e (qm.1.2 j)
  obtain ⟨A', fA, cA⟩ := g4
  obtain ⟨s, fs, es⟩ := Cb_div hP g1 hG0 (SR_fs hFs) fA (SR_fs qm.1) cA cm hCF
  obtain ⟨u, fu, eu_⟩ := Cb_div hP g1 hG0 (SR_fs g7) fA (SR_fs qm.1) cA cm g6
  obtain ⟨kk, fk, ek⟩ := Cb_uq fA (SR_fs qm.1) (SR_fs hFs) (SR_fs g7) fs fu es eu_
  have dM := pdv hP g7 qm.1 qm.2
  have dC := pdv hP hFs qc.1 qc.2
  generalize (pdiv p U Cm (plen U 80) (plen Cm 80)).1 = q1 at dM
  generalize (pdiv p U Cm (plen U 80) (plen Cm 80)).2 = r1 at dM ⊢
  generalize (pdiv p Fc Cc (plen Fc 64) (plen Cc 64)).1 = q2 at dC
  generalize (pdiv p Fc Cc (plen Fc 64) (plen Cc 64)).2 = r2 at dC ⊢
  have hres : r2 = r1 := by
    refine Rst_uq (F := Fc) (x := q2) (y := fun j => l * (kk j + q1 j)) hP qc.1 qc.2 (DivS_fs dC).1 (Fs_mul (Fs_add fk (DivS_fs dM).1)) dC.2.1 dM.2.1 dC.2.2.2.1 (fun j hj => dM.2.2.2.1 j (by omega)) dC.2.2.1 (fun j => ?_)
    rw [conv_mull (a := fun j => kk j + q1 j), ← conv_mulr]
    have e1 : Cg p (conv (fun j => kk j + q1 j) (fun j => l * Cc j) j) (conv (fun j => kk j + q1 j) Cm j) := conv_cg (fun _ => Cg_rf) (fun i => Cg_sy (hCl i))
    rw [conv_addl (a := kk) (a' := q1) (b := Cm)] at e1
    have e2 := Cg_add (Cg_rf (a := conv kk Cm j)) (dM.2.2.1 j)
    exact Cg_tr (Cg_add e1 (Cg_rf (a := r1 j))) (Cg_tr (Cg_of (by omega)) (Cg_tr e2 (ek j)))
  rw [hres]
  exact clip_id (fun j hj => dM.2.2.2.1 j (by omega))
