/-! cofactor: where b is 0; as the contracts say it -/
theorem pscal_len {p : Int} {M : Int → Int} (hP : IsP p) (hM : SR p 80 M) (h0 : 0 < plen M 80) : plen (pscal p (inv p (M (plen M 80 - 1))) M) 80 = plen M 80 := by
  have hpb := hP.bd
  have hlead := plen_lead h0
  have hlr := hM.2 (plen M 80 - 1)
  have hi := inv_cg hP (show 0 < M (plen M 80 - 1) ∧ M (plen M 80 - 1) < p by omega)
  generalize M (plen M 80 - 1) = l at hlead hlr hi ⊢
  refine plen_iff (fun j _ _ => ⟨fun z => ?_, fun z => ?_⟩)
  · have e1 : Cg p (inv p l * M j) 0 := Cg_tr (Cg_sy (Cg_tr Cg_em (Cg_of (Int.mul_comm (M j) (inv p l))))) (Cg_of z)
    have e2 : Cg p (l * (inv p l * M j)) 0 := Cg_tr (Cg_mul Cg_rf e1) (Cg_of (Int.mul_zero _))
    rw [← Int.mul_assoc] at e2
    exact Cg_z (Cg_tr (Cg_sy (Cg_tr (Cg_mul hi Cg_rf) (Cg_of (Int.one_mul _)))) e2) (hM.2 j)
  · unfold pscal
    rw [z, Int.zero_mul]; rfl
theorem cof_zero {p : Int} {a b : Int → Int} {k t : Nat} (hP : IsP p) (ha : SR p 32 a) (hb : SR p 32 b) (h1 : ∀ s : Nat, s < k → 0 < plen (eu p b a s).2.1 64) (h2 : plen (eu p b a k).2.1 64 ≤ 0) (hT : MuT p a b t) (hl : ¬ 0 < plen b 64) : clip 32 (pscl p (eu p b a k).1 (eu p b a k).2.2.1) = mX p a b t := by
  have hpb := hP.bd
  have a64 := SR_up ha (show 32 ≤ 64 by decide)
  have a80 := SR_up ha (show 32 ≤ 80 by decide)
  have eb64 : plen b 64 = plen b 32 := plen_more hb.1 (by decide)
  have eb80 : plen b 80 = plen b 32 := plen_more hb.1 (by decide)
  have ea64 : plen a 64 = plen a 32 := plen_more ha.1 (by decide)
  have ea80 : plen a 80 = plen a 32 := plen_more ha.1 (by decide)
  have bb := plen_bd b 32
  have ba := plen_bd a 32
  have zb : ∀ j : Int, b j = 0 := fun j => Sup_z hb.1 (by omega)
  have ht : t = 0 := by
    cases t with
    | zero => rfl
    | succ t =>
      have : 0 < plen b 80 := hT.1 0 (by omega)
      omega
  subst ht
  have eX : mX p a b 0 = mU1 p a b 0 := by
    unfold mX
    rw [if_neg (by omega)]
  rw [eX]
  by_cases ca : plen a 32 = 0
  · have hk : k = 0 := by
      cases k with
      | zero => rfl
      | succ k =>
        have : 0 < plen a 64 := h1 0 (by omega)
        omega
    subst hk
    have eG : plen (mG p a b 0) 80 = 0 := plen_eq (by omega) (by omega) (fun j _ _ => by
      show a j * inv p (a (plen a 80 - 1)) % p = 0
      rw [Sup_z ha.1 (by omega), Int.zero_mul]; rfl) (Or.inl rfl)
    unfold mU1
    rw [if_pos eG]
    funext j
    show (if 0 ≤ j ∧ j < ((32 : Nat) : Int) then (0 + inv p (b (plen b 64 - 1)) * 0) % p else 0) = 0
    rw [Int.mul_zero, Int.add_zero, Int.zero_emod]
    by_cases c : 0 ≤ j ∧ j < ((32 : Nat) : Int)
    · rw [if_pos c]
    · rw [if_neg c]
  · have hk : ∃ k' : Nat, k = k' + 1 := by
      cases k with
      | zero =>
        have : plen a 64 ≤ 0 := h2
        omega
      | succ k => exact ⟨k, rfl⟩
    obtain ⟨k', rfl⟩ := hk
    have hk' : k' = 0 := by
      cases k' with
      | zero => rfl
      | succ k' =>
        have h5 : 0 < plen (eu p b a 1).2.1 64 := h1 1 (by omega)
        have hr : (eu p b a 1).2.1 = (pdiv p b a (plen b 64) (plen a 64)).2 := rfl
        have hS := pdv hP (SR_up hb (show 32 ≤ 64 by decide)) a64 (show 0 < plen a 64 by omega)
        have e := Rst_uq (F := b) (y := pz) (r' := pz) hP a64 (by omega) (DivS_fs hS).1 Fs_pz hS.2.1 (Red_pz (by omega)) hS.2.2.2.1 (fun _ _ => rfl) hS.2.2.1 (fun j => Cg_of (by rw [conv_pz, zb j]; rfl))
        rw [hr, e, plen_pz] at h5
        omega
    subst hk'
    have e1 : (eu p b a (0 + 1)).1 = a := rfl
    have e2 : (eu p b a (0 + 1)).2.2.1 = one := rfl
    rw [e1, e2]
    have hA0 : 0 < plen a 80 := by omega
    have hG : plen (mG p a b 0) 80 = plen a 80 := pscal_len hP a80 hA0
    have hU : mU p a b 0 = pscal p (inv p (a (plen a 80 - 1))) one := if_neg (show ¬ plen a 80 = 0 by omega)
    unfold mU1
    rw [if_neg (by omega), hU, ea80, clip_id]
    · funext j
      show (0 + inv p (a (plen a 64 - 1)) * one (j - 0)) % p = one j * inv p (a (plen a 32 - 1)) % p
      rw [ea64, Int.zero_add, Int.sub_zero, Int.mul_comm]
    · exact padd_S (Red_pz (by omega)) Sup_pz (one_sup (by decide))
theorem cof_eq {p : Int} {a b : Int → Int} {k t : Nat} (hP : IsP p) (ha : SR p 32 a) (hb : SR p 32 b) (h1 : ∀ s : Nat, s < k → 0 < plen (eu p b a s).2.1 64) (h2 : plen (eu p b a k).2.1 64 ≤ 0) (hT : MuT p a b t) : clip 32 (if 0 < plen b 64 then cof p b (eu p b a k).1 (eu p b a k).2.2.1 else pscl p (eu p b a k).1 (eu p b a k).2.2.1) = mX p a b t := by
  by_cases hl : 0 < plen b 64
  · rw [if_pos hl]
    exact cof_main hP ha hb h1 h2 hT hl
  · rw [if_neg hl]
    exact cof_zero hP ha hb h1 h2 hT hl
