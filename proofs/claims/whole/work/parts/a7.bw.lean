/-! put right: the Model's way (Berlekamp's and Welch's) finds the same -/
theorem csum_split {f : Int → Int} {a : Nat} : ∀ b : Nat, csum f (a + b) = csum f a + csum (fun j => f (j + a)) b
  | 0 => by
    show csum f a = csum f a + 0
    omega
  | b + 1 => by
    show csum f (a + b) + f ((a + b : Nat) : Int) = csum f a + (csum (fun j => f (j + a)) b + f ((b : Int) + a))
    rw [csum_split b, show ((a + b : Nat) : Int) = (b : Int) + a by omega]
    omega
theorem bw_val {p hf k r : Int} {xs vs x : Int → Int} (hh : 0 ≤ hf ∧ 2 * hf + k ≤ 16) (hk : 1 ≤ k) : Cg p (rwv (bwm p hf k xs vs) x (2 * hf + k) r) (vl (bwN hf k x) (xs r) (hf + k).toNat - vs r * vl (bwE hf x) (xs r) (hf + 1).toNat) := by
  unfold rwv
  rw [bwm_at (by decide), show (2 * hf + k).toNat = hf.toNat + (hf + k).toNat by omega, csum_split]
  have e16 : Cg p (bwr p hf k xs vs r 16) (vs r * xs r ^ hf.toNat) := by
    unfold bwr
    rw [if_neg (by omega), if_neg (by omega), if_neg (by decide)]
    exact Cg_tr Cg_em (Cg_mul Cg_rf Cg_em)
  have e1 : Cg p (csum (fun j => bwm p hf k xs vs (17 * r + j) * x j) hf.toNat) ((-(vs r)) * csum (fun j => bwE hf x j * xs r ^ j.toNat) hf.toNat) := by
    rw [← csum_mul]
    refine Cg_csum (fun j h0 h1 => ?_)
    show Cg p (bwm p hf k xs vs (17 * r + j) * x j) (-(vs r) * (bwE hf x j * xs r ^ j.toNat))
    rw [bwm_at (by omega)]
    unfold bwr bwE
    rw [if_pos (by omega), if_pos (by omega), Int.mul_comm (x j), ← Int.mul_assoc]
    exact Cg_mul (Cg_tr Cg_em (Cg_mul Cg_rf Cg_em)) Cg_rf
  have e2 : Cg p (csum (fun j => bwm p hf k xs vs (17 * r + (j + (hf.toNat : Int))) * x (j + (hf.toNat : Int))) (hf + k).toNat) (vl (bwN hf k x) (xs r) (hf + k).toNat) := by
    refine Cg_csum (fun j h0 h1 => ?_)
    show Cg p (bwm p hf k xs vs (17 * r + (j + (hf.toNat : Int))) * x (j + (hf.toNat : Int))) (bwN hf k x j * xs r ^ j.toNat)
    rw [bwm_at (by omega)]
    unfold bwr bwN
    rw [if_neg (by omega), if_pos (by omega), if_pos (by omega), Int.mul_comm (x _), show j + (hf.toNat : Int) - hf = j by omega, show hf + j = j + (hf.toNat : Int) by omega]
    exact Cg_mul Cg_em Cg_rf
  have e3 : vl (bwE hf x) (xs r) (hf + 1).toNat = csum (fun j => bwE hf x j * xs r ^ j.toNat) hf.toNat + xs r ^ hf.toNat := by
    rw [show (hf + 1).toNat = hf.toNat + 1 by omega]
    show csum (fun j => bwE hf x j * xs r ^ j.toNat) hf.toNat + bwE hf x (hf.toNat : Int) * xs r ^ ((hf.toNat : Nat) : Int).toNat = _
    have eh : bwE hf x (hf.toNat : Int) = 1 := by
      unfold bwE
      rw [if_neg (by omega), if_pos (by omega)]
    rw [eh, Int.one_mul, show (((hf.toNat : Nat) : Int)).toNat = hf.toNat by omega]
  rw [e3, Int.mul_add]
  refine Cg_tr (Cg_sub (Cg_add e1 e2) e16) (Cg_of ?_)
  rw [Int.neg_mul]
  omega
theorem bwE_z {hf : Int} {x : Int → Int} (h : 0 ≤ hf) : Fs (bwE hf x) ∧ ∀ j : Int, hf + 1 ≤ j → bwE hf x j = 0 := by
  have hz : ∀ j : Int, (j < 0 ∨ hf + 1 ≤ j) → bwE hf x j = 0 := fun j hj => by
    unfold bwE
    rw [if_neg (by omega), if_neg (by omega)]
  exact ⟨⟨fun j hj => hz j (Or.inl hj), hf + 1, fun j hj => hz j (Or.inr hj)⟩, fun j hj => hz j (Or.inr hj)⟩
theorem bwN_z {hf k : Int} {x : Int → Int} : Fs (bwN hf k x) ∧ ∀ j : Int, hf + k ≤ j → bwN hf k x j = 0 := by
  have hz : ∀ j : Int, (j < 0 ∨ hf + k ≤ j) → bwN hf k x j = 0 := fun j hj => by
    unfold bwN
    rw [if_neg (by omega)]
  exact ⟨⟨fun j hj => hz j (Or.inl hj), hf + k, fun j hj => hz j (Or.inr hj)⟩, fun j hj => hz j (Or.inr hj)⟩
/-- where something is right, the system has an answer -/
theorem bw_ex {p m k hf : Int} {xs vs f : Int → Int} (hP : IsP p) (hm : 0 ≤ m ∧ m ≤ 16) (hk : 1 ≤ k ∧ k ≤ m) (hhf : hf = (m - k) / 2) (hF : SR p 64 f) (hfl : plen f 64 ≤ k) (hfw : wrg p f xs vs m.toNat ≤ hf) : ∃ x : Int → Int, Sol p m (2 * hf + k) (bwm p hf k xs vs) x := by
  have hpb := hP.bd
  have hwb := wrg_bd (p := p) (r := f) (xs := xs) (vs := vs) m.toNat
  obtain ⟨g1, g2, g3⟩ := prd_ok (p := p) (xs := xs) (s := wsl p f xs vs) hP m.toNat
  have fE := prd_fs (p := p) (xs := xs) (s := wsl p f xs vs) (t := m.toNat) hP
  rw [wsl_cnt] at g2 g3
  have hEz : ∀ i : Nat, i < m.toNat → wsl p f xs vs (i : Int) ≠ 0 → Rz p (prd p xs (wsl p f xs vs) m.toNat) (xs (i : Int)) := fun i hi hs => prd_rz hP _ i hi hs
  generalize prd p xs (wsl p f xs vs) m.toNat = E at *
  generalize wrg p f xs vs m.toNat = wr at *
  -- monic, of degree hf
  have fE2 : Fs (conv (mono (hf - wr).toNat) E) := Fs_conv mono_fs fE
  have eE2 : ∀ j : Int, conv (mono (hf - wr).toNat) E j = E (j - (hf - wr)) := fun j => by
    rw [mono_conv fE.1, show (((hf - wr).toNat : Nat) : Int) = hf - wr by omega]
  have hE2z : ∀ j : Int, hf < j → conv (mono (hf - wr).toNat) E j = 0 := fun j hj => by
    rw [eE2]; exact g2 _ (Or.inr (by omega))
  have hE2t : conv (mono (hf - wr).toNat) E hf = 1 := by
    rw [eE2, show hf - (hf - wr) = wr by omega]; exact g3
  have hE2r : ∀ i : Nat, i < m.toNat → wsl p f xs vs (i : Int) ≠ 0 → Rz p (conv (mono (hf - wr).toNat) E) (xs (i : Int)) := fun i hi hs => Rz_conv mono_fs fE (Or.inr (hEz i hi hs))
  generalize conv (mono (hf - wr).toNat) E = ee at *
  have hNz : ∀ j : Int, (j < 0 ∨ hf + k ≤ j) → conv ee f j = 0 := fun j hj => by
    by_cases c : j < 0
    · exact conv_neg c
    · exact conv_out (la := hf + 1) (lb := plen f 64) (fun i hi => hE2z i (by omega)) (fun i hi => Sup_z hF.1 (by omega)) (by omega)
  refine ⟨fun j => if j < hf then ee j else conv ee f (j - hf), fun r h0 h1 => ?_⟩
  have hh : 0 ≤ hf ∧ 2 * hf + k ≤ 16 := by omega
  refine Cg_tr (bw_val hh hk.1) ?_
  have e1 : bwE hf (fun j => if j < hf then ee j else conv ee f (j - hf)) = ee := funext fun j => by
    show (if 0 ≤ j ∧ j < hf then (if j < hf then ee j else conv ee f (j - hf)) else if j = hf then 1 else 0) = ee j
    by_cases c1 : 0 ≤ j ∧ j < hf
    · rw [if_pos c1, if_pos c1.2]
    · rw [if_neg c1]
      by_cases c2 : j = hf
      · rw [if_pos c2, c2, hE2t]
      · rw [if_neg c2]
        by_cases c3 : j < 0
        · exact (fE2.1 j c3).symm
        · exact (hE2z j (by omega)).symm
  have e2 : bwN hf k (fun j => if j < hf then ee j else conv ee f (j - hf)) = conv ee f := funext fun j => by
    show (if 0 ≤ j ∧ j < hf + k then (if hf + j < hf then ee (hf + j) else conv ee f (hf + j - hf)) else 0) = conv ee f j
    by_cases c1 : 0 ≤ j ∧ j < hf + k
    · rw [if_pos c1, if_neg (by omega), show hf + j - hf = j by omega]
    · rw [if_neg c1]
      exact (hNz j (by omega)).symm
  rw [e1, e2]
  have v1 : vl (conv ee f) (xs r) (hf + k).toNat = vl ee (xs r) (hf + 1).toNat * vl f (xs r) 64 := by
    rw [← vl_conv (a := ee) (b := f) (x := xs r) (N := (hf + 1).toNat) (M := 64) (K := (hf + 1).toNat + 64) (SR_zn hF) (fun j hj => hE2z j (by omega)) (fun j hj => hF.1 j (Or.inr hj)) (Nat.le_refl _)]
    exact (vl_more (fun j hj => hNz j (by omega)) (by omega)).symm
  rw [v1]
  have hr : ((r.toNat : Nat) : Int) = r := by omega
  rcases wsl_or (p := p) (f := f) (xs := xs) (vs := vs) (j := r) with g | g
  · have := hE2r r.toNat (by omega) (by rw [hr]; exact g) (hf + 1).toNat (fun j hj => hE2z j (by omega))
    rw [hr] at this
    refine Cg_tr (Cg_sub (Cg_mul this Cg_rf) (Cg_mul Cg_rf this)) (Cg_of ?_)
    rw [Int.zero_mul, Int.mul_zero]; rfl
  · have e := ev_cg (N := 64) g hF.1 (by decide)
    refine Cg_tr (Cg_sub (Cg_mul Cg_rf e) Cg_rf) (Cg_of ?_)
    rw [Int.mul_comm]
    exact Int.sub_self _
/-- each of its answers gives what is right -/
theorem bw_uq {p m k hf : Int} {xs vs f x qq r : Int → Int} (hP : IsP p) (hm : 0 ≤ m ∧ m ≤ 16) (hk : 1 ≤ k ∧ k ≤ m) (hhf : hf = (m - k) / 2) (hx : Red p xs) (hu : Unl xs m) (hF : SR p 64 f) (hfl : plen f 64 ≤ k) (hfw : wrg p f xs vs m.toNat ≤ hf) (hxr : Red p x) (hS : Sol p m (2 * hf + k) (bwm p hf k xs vs) x) (hD : DivS p (bwN hf k x) (bwE hf x) qq r (plen (bwN hf k x) 80) (hf + 1)) : qq = f ∧ plen r 80 = 0 := by
  have hpb := hP.bd
  have hh : 0 ≤ hf ∧ 2 * hf + k ≤ 16 := by omega
  obtain ⟨fE, zE⟩ := bwE_z (hf := hf) (x := x) hh.1
  obtain ⟨fN, zN⟩ := bwN_z (hf := hf) (k := k) (x := x)
  have lE : plen (bwE hf x) 80 = hf + 1 := bwE_len (by omega)
  have rE := bwE_red (hf := hf) (by omega : 1 < p) hxr
  have vE : ∀ i : Nat, i < m.toNat → Cg p (vl (bwN hf k x) (xs (i : Int)) (hf + k).toNat) (vs (i : Int) * vl (bwE hf x) (xs (i : Int)) (hf + 1).toNat) := fun i hi => by
    have e := Cg_tr (Cg_sy (bw_val (p := p) (r := (i : Int)) (xs := xs) (vs := vs) (x := x) hh hk.1)) (hS (i : Int) (by omega) (by omega))
    have e2 := Cg_add e (Cg_rf (a := vs (i : Int) * vl (bwE hf x) (xs (i : Int)) (hf + 1).toNat))
    exact Cg_tr (Cg_of (by omega)) (Cg_tr e2 (Cg_of (by omega)))
  generalize bwE hf x = E at *
  generalize bwN hf k x = nn at *
  have hESR : SR p 80 E := ⟨fun j hj => by
    rcases hj with hj | hj
    · exact fE.1 j hj
    · exact zE j (by omega), rE⟩
  have fG : Fs (fun j => nn j + (-1) * conv E f j) := Fs_add fN (Fs_mul (Fs_conv fE (SR_fs hF)))
  have zG : ∀ j : Int, hf + k ≤ j → (fun j => nn j + (-1) * conv E f j) j = 0 := fun j hj => by
    show nn j + (-1) * conv E f j = 0
    rw [zN j hj, conv_out (la := hf + 1) (lb := plen f 64) (fun i hi => zE i hi) (fun i hi => Sup_z hF.1 (by omega)) (by have := plen_bd f 64; omega)]
    rfl
  have hX : SR p 64 (fun j => (nn j + (-1) * conv E f j) % p) := ⟨fun j hj => by
    have e : nn j + (-1) * conv E f j = 0 := by
      rcases hj with hj | hj
      · exact fG.1 j hj
      · exact zG j (by omega)
    show (nn j + (-1) * conv E f j) % p = 0
    rw [e]; rfl, fun j => em_bd (by omega)⟩
  have hlX : plen (fun j => (nn j + (-1) * conv E f j) % p) 64 ≤ hf + k := plen_le (by omega) (fun j hj _ => by
    have e : nn j + (-1) * conv E f j = 0 := zG j hj
    show (nn j + (-1) * conv E f j) % p = 0
    rw [e]; rfl)
  have hz := cnt_zero (xs := xs) (s := rsl p f xs vs) (t := m.toNat) hP hX (by rw [rsl_cnt]; omega) (fun i hi hs => by
    refine Rz_cg fG (SR_fs hX) (fun _ => Cg_sy Cg_em) (Rz_of (N := 128) (fun j hj => zG j (by omega)) ?_)
    rw [vl_dif (L := (hf + k).toNat) (M := (hf + 1).toNat) (N := 64) (SR_zn hF) (fun j hj => zN j (by omega)) (fun j hj => zE j (by omega)) (fun j hj => hF.1 j (Or.inr hj)) (by omega) (by omega)]
    have e1 := ev_cg (N := 64) (rsl_v hs) hF.1 (by decide)
    refine Cg_tr (Cg_sub (vE i hi) (Cg_mul Cg_rf e1)) (Cg_of ?_)
    rw [Int.mul_comm]
    exact Int.sub_self _) (fun i j hi hj _ _ => Unl_cg hx hu (by omega) hj)
  have hNf : ∀ j : Int, Cg p (conv f E j) (nn j) := fun j => by
    rw [conv_comm (SR_zn hF) fE.1]
    have e0 : (nn j + (-1) * conv E f j) % p = 0 := hz j
    have e1 : Cg p (nn j + (-1) * conv E f j) 0 := by rw [Cg_iff, e0]; rfl
    have e2 := Cg_add e1 (Cg_rf (a := conv E f j))
    exact Cg_sy (Cg_tr (Cg_of (by omega)) (Cg_tr e2 (Cg_of (by omega))))
  obtain ⟨u1, u2⟩ := quo_uq (F := nn) (x := qq) (y := f) (r := r) hP hESR (by omega) (DivS_fs hD).1 (SR_fs hF) hD.1 hF.2 hD.2.1 (fun j hj => hD.2.2.2.1 j (by omega)) hD.2.2.1 hNf
  exact ⟨u1, by rw [u2]; exact plen_pz 80⟩
