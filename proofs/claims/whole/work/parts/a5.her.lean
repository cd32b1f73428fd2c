/-! FILLED: it holds at all PLACES, and it alone does -/
/-- b less the nodes that aren't b, multiplied -/
def und (xs : Int → Int) (b : Int) : Nat → Int
  | 0 => 1
  | t + 1 => if xs (t : Int) = b then und xs b t else (b - xs (t : Int)) * und xs b t
theorem und_nz {p b : Int} {xs : Int → Int} (hP : IsP p) (hx : Red p xs) (hb : 0 ≤ b ∧ b < p) : ∀ t : Nat, ¬ Cg p (und xs b t) 0
  | 0, h => by
    have hpb := hP.bd
    have := Cg_z (show Cg p 1 0 from h) (by omega)
    omega
  | t + 1, h => by
    have ih := und_nz hP hx hb t
    unfold und at h
    by_cases c : xs (t : Int) = b
    · rw [if_pos c] at h; exact ih h
    · rw [if_neg c] at h
      rcases Cg_nz2 hP h with g | g
      · have e := Cg_add g (Cg_rf (a := xs (t : Int)))
        have := Cg_lt (Cg_tr (Cg_of (by omega)) (Cg_tr e (Cg_of (by omega)))) hb (hx (t : Int))
        omega
      · exact ih g
def nds (p : Int) (xs : Int → Int) : Nat → Int → Int
  | 0 => one
  | t + 1 => pmul p (nds p xs t) (line p (xs (t : Int)))
theorem itp_2 {p : Int} {xs vs : Int → Int} : ∀ t : Nat, (itp p xs vs t).2 = nds p xs t
  | 0 => rfl
  | t + 1 => by
    show pmul p (itp p xs vs t).2 (line p (xs (t : Int))) = pmul p (nds p xs t) (line p (xs (t : Int)))
    rw [itp_2 t]
theorem nds_prd {p : Int} {xs : Int → Int} : ∀ t : Nat, nds p xs t = prd p xs (fun _ => 1) t
  | 0 => rfl
  | t + 1 => by
    rw [prd_y (by decide)]
    show pmul p (nds p xs t) _ = _
    rw [nds_prd t]
theorem cnt_all : ∀ t : Nat, cnt (fun _ => 1) t = t
  | 0 => rfl
  | t + 1 => by rw [cnt_y (by decide), cnt_all t]; omega
theorem nds_ok {p : Int} {xs : Int → Int} {t N : Nat} (hP : IsP p) (hN : t + 1 ≤ N) : SR p N (nds p xs t) ∧ plen (nds p xs t) N = t + 1 := by
  have h := prd_SR (p := p) (xs := xs) (s := fun _ => 1) (t := t) (N := N) hP (by rw [cnt_all]; omega)
  rw [cnt_all, ← nds_prd] at h
  exact h
theorem nds_fs {p : Int} {xs : Int → Int} {t : Nat} (hP : IsP p) : Fs (nds p xs t) := SR_fs (nds_ok (N := t + 1) hP (Nat.le_refl _)).1
theorem tah_mono {xs : Int → Int} {r : Int} {s : Nat} : ∀ k : Nat, tah xs r s ≤ tah xs r (s + k)
  | 0 => Int.le_refl _
  | k + 1 => by
    have := tah_mono (xs := xs) (r := r) (s := s) k
    show tah xs r s ≤ tah xs r (s + k) + (if xs ((s + k : Nat) : Int) = xs r then 1 else 0)
    by_cases c : xs ((s + k : Nat) : Int) = xs r
    · rw [if_pos c]; omega
    · rw [if_neg c]; omega
theorem T_any {F : Int → Int} {b k : Int} {N M : Nat} (h : ∀ j : Int, (N : Int) ≤ j → F j = 0) (h' : ∀ j : Int, (M : Int) ≤ j → F j = 0) : T F b M k = T F b N k := by
  by_cases c : N ≤ M
  · exact T_more h c
  · exact (T_more h' (by omega)).symm
/-- the first numbers of a multiple of the nodes, moved by one of them -/
theorem T_nds {p r : Int} {xs q : Int → Int} {M : Nat} (hq : Zn q) (hM : ∀ j : Int, (M : Int) ≤ j → q j = 0) (hP : IsP p) : ∀ t : Nat, (∀ k : Int, k < tah xs r t → Cg p (T (conv q (nds p xs t)) (xs r) (M + t) k) 0) ∧ Cg p (T (conv q (nds p xs t)) (xs r) (M + t) (tah xs r t)) (vl q (xs r) M * und xs (xs r) t)
  | 0 => by
    have e : conv q (nds p xs 0) = q := funext fun j => by
      show conv q one j = q j
      rw [conv_comm hq (Fs_sup (one_sup (N := 1) (by decide))).1, conv_one hq]
    rw [e]
    refine ⟨fun k hk => Cg_of (T_neg hk), Cg_of ?_⟩
    show T q (xs r) M 0 = vl q (xs r) M * 1
    rw [T_zero, Int.mul_one]
  | t + 1 => by
    obtain ⟨h1, h2⟩ := T_nds (r := r) (xs := xs) hq hM hP t
    have fn := nds_fs (xs := xs) (t := t) hP
    have hn := (nds_ok (xs := xs) (t := t) (N := t + 1) hP (Nat.le_refl _)).1
    have hz : ∀ j : Int, ((M + t : Nat) : Int) ≤ j → conv q (nds p xs t) j = 0 := fun j hj => conv_out (la := M) (lb := t + 1) hM (fun i hi => hn.1 i (Or.inr (by omega))) (by omega)
    have hstep : ∀ k : Int, Cg p (T (conv q (nds p xs (t + 1))) (xs r) (M + (t + 1)) k) (T (conv q (nds p xs t)) (xs r) (M + t) (k - 1) + (xs r - xs (t : Int)) * T (conv q (nds p xs t)) (xs r) (M + t) k) := fun k => by
      refine Cg_tr (T_cg (fun j => ?_)) (T_line conv_zn hz)
      rw [conv_assoc hq fn.1 line_fs.1]
      exact conv_cg (fun _ => Cg_rf) (fun _ => Cg_em)
    have et : tah xs r (t + 1) = tah xs r t + (if xs (t : Int) = xs r then 1 else 0) := rfl
    have eu : und xs (xs r) (t + 1) = if xs (t : Int) = xs r then und xs (xs r) t else (xs r - xs (t : Int)) * und xs (xs r) t := rfl
    by_cases c : xs (t : Int) = xs r
    · rw [if_pos c] at et eu
      have hs2 : ∀ k : Int, Cg p (T (conv q (nds p xs (t + 1))) (xs r) (M + (t + 1)) k) (T (conv q (nds p xs t)) (xs r) (M + t) (k - 1)) := fun k => by
        have := hstep k
        rw [c, Int.sub_self, Int.zero_mul, Int.add_zero] at this
        exact this
      rw [et, eu]
      refine ⟨fun k hk => Cg_tr (hs2 k) (h1 (k - 1) (by omega)), ?_⟩
      have := hs2 (tah xs r t + 1)
      rw [show tah xs r t + 1 - 1 = tah xs r t by omega] at this
      exact Cg_tr this h2
    · rw [if_neg c, Int.add_zero] at et
      rw [if_neg c] at eu
      rw [et, eu]
      refine ⟨fun k hk => Cg_tr (hstep k) (Cg_tr (Cg_add (h1 (k - 1) (by omega)) (Cg_mul Cg_rf (h1 k hk))) (Cg_of (by rw [Int.mul_zero]; rfl))), ?_⟩
      refine Cg_tr (hstep _) (Cg_tr (Cg_add (h1 _ (by omega)) (Cg_mul Cg_rf h2)) (Cg_of ?_))
      rw [Int.zero_add, Int.mul_left_comm]
theorem T_nds1 {p r : Int} {xs : Int → Int} {t N : Nat} (hP : IsP p) (hN : t + 1 ≤ N) : (∀ k : Int, k < tah xs r t → Cg p (T (nds p xs t) (xs r) N k) 0) ∧ Cg p (T (nds p xs t) (xs r) N (tah xs r t)) (und xs (xs r) t) := by
  have h := T_nds (r := r) (xs := xs) (q := one) (M := 1) (Fs_sup (one_sup (N := 1) (by decide))).1 (fun j hj => (iup_ne (by omega)).trans rfl) hP t
  have e : conv one (nds p xs t) = nds p xs t := funext fun j => conv_one (nds_fs hP).1
  have hn := (nds_ok (xs := xs) (t := t) (N := t + 1) hP (Nat.le_refl _)).1
  have hT : ∀ k : Int, T (nds p xs t) (xs r) N k = T (nds p xs t) (xs r) (1 + t) k := fun k => T_more (fun j hj => hn.1 j (by omega)) (by omega)
  have e1 : vl one (xs r) 1 = 1 := vl1.trans iup_at
  rw [e, e1, Int.one_mul] at h
  exact ⟨fun k hk => by rw [hT]; exact h.1 k hk, by rw [hT]; exact h.2⟩
theorem itp_z {p : Int} {xs vs : Int → Int} (hP : IsP p) : ∀ t : Nat, t ≤ 16 → ∀ j : Int, (j < 0 ∨ (t : Int) ≤ j) → (itp p xs vs t).1 j = 0
  | 0, _, _, _ => rfl
  | t + 1, ht, j, hj => by
    have ih := itp_z (xs := xs) (vs := vs) hP t (by omega) j (by omega)
    have hok := itp_ok (xs := xs) (vs := vs) hP t (by omega)
    refine (padd_out hok.2.1 ?_).trans ih
    rw [itp_2]
    exact (nds_ok (xs := xs) (t := t) (N := t + 1) hP (Nat.le_refl _)).1.1 _ (by omega)
/-- FILLED holds at the PLACES so far -/
theorem itp_T {p : Int} {xs vs : Int → Int} (hP : IsP p) (hx : Red p xs) : ∀ t : Nat, t ≤ 16 → ∀ s : Nat, s < t → Cg p (T (itp p xs vs t).1 (xs (s : Int)) 64 (tah xs (s : Int) s)) (vs (s : Int))
  | 0, _, s, hs => by omega
  | t + 1, ht, s, hs => by
    have hpb := hP.bd
    obtain ⟨k1, k2, k3, k4, k5⟩ := itp_ok (xs := xs) (vs := vs) hP t (by omega)
    have hb := tah_bd (xs := xs) (pl := (t : Int)) t
    have hpm : ∀ j : Int, Cg p ((itp p xs vs (t + 1)).1 j) ((itp p xs vs t).1 j + ((vs (t : Int) - pmo p (xs (t : Int)) (itp p xs vs t).1 (tah xs (t : Int) t + 1) (tah xs (t : Int) t)) % p * inv p (pmo p (xs (t : Int)) (itp p xs vs t).2 (tah xs (t : Int) t + 1) (tah xs (t : Int) t)) % p) * (itp p xs vs t).2 j) := fun j => by
      show Cg p (((itp p xs vs t).1 j + ((vs (t : Int) - pmo p (xs (t : Int)) (itp p xs vs t).1 (tah xs (t : Int) t + 1) (tah xs (t : Int) t)) % p * inv p (pmo p (xs (t : Int)) (itp p xs vs t).2 (tah xs (t : Int) t + 1) (tah xs (t : Int) t)) % p) * (itp p xs vs t).2 (j - 0)) % p) _
      rw [Int.sub_zero]
      exact Cg_em
    have hF := pmo_T (p := p) (b := xs (t : Int)) (k := tah xs (t : Int) t) k1 hb.1
    have hN := pmo_T (p := p) (b := xs (t : Int)) (k := tah xs (t : Int) t) k3 hb.1
    have rN := (pmo_ok (p := p) (x := xs (t : Int)) (w := tah xs (t : Int) t + 1) (by omega) k3 k4).2 (tah xs (t : Int) t)
    generalize pmo p (xs (t : Int)) (itp p xs vs t).1 (tah xs (t : Int) t + 1) (tah xs (t : Int) t) = u1 at *
    generalize pmo p (xs (t : Int)) (itp p xs vs t).2 (tah xs (t : Int) t + 1) (tah xs (t : Int) t) = u2 at *
    refine Cg_tr (T_cg hpm) ?_
    rw [T_lin]
    have hi : (itp p xs vs t).2 = nds p xs t := itp_2 t
    rw [hi] at hN ⊢
    by_cases c : s = t
    · subst c
      have hu := (T_nds1 (r := (s : Int)) (xs := xs) (t := s) (N := 64) hP (by omega)).2
      have hne := und_nz hP hx (hx (s : Int)) s
      have h0 : u2 ≠ 0 := fun z => hne (Cg_tr (Cg_sy hu) (Cg_tr (Cg_sy hN) (Cg_of z)))
      have hin := inv_cg hP (show 0 < u2 ∧ u2 < p by omega)
      have e1 : Cg p (((vs (s : Int) - u1) % p * inv p u2 % p) * T (nds p xs s) (xs (s : Int)) 64 (tah xs (s : Int) s)) ((vs (s : Int) - u1) * (inv p u2 * u2)) := by
        rw [← Int.mul_assoc]
        exact Cg_mul (Cg_tr Cg_em (Cg_mul Cg_em Cg_rf)) (Cg_sy hN)
      rw [Int.mul_comm (inv p u2)] at e1
      have e2 := Cg_tr e1 (Cg_mul Cg_rf hin)
      rw [Int.mul_one] at e2
      exact Cg_tr (Cg_add (Cg_sy hF) e2) (Cg_of (by omega))
    · have ih := itp_T (vs := vs) hP hx t (by omega) s (by omega)
      have hlt : tah xs (s : Int) s < tah xs (s : Int) t := by
        have e1 : tah xs (s : Int) (s + 1) = tah xs (s : Int) s + (if xs (s : Int) = xs (s : Int) then 1 else 0) := rfl
        rw [if_pos rfl] at e1
        have e2 := tah_mono (xs := xs) (r := (s : Int)) (s := s + 1) (t - (s + 1))
        rw [show s + 1 + (t - (s + 1)) = t by omega] at e2
        omega
      have hz := (T_nds1 (r := (s : Int)) (xs := xs) (t := t) (N := 64) hP (by omega)).1 _ hlt
      exact Cg_tr (Cg_add ih (Cg_tr (Cg_mul Cg_rf hz) (Cg_of (Int.mul_zero _)))) (Cg_of (Int.add_zero _))
theorem flr_tp {p r i : Int} {xs : Int → Int} (hp : 0 < p) (hr : 0 ≤ r ∧ r < 16) (hi : 0 ≤ i ∧ i < 16) : Cg p (flr p xs r i) (tp (xs r) i.toNat (tah xs r r.toNat)) := by
  have hb := tah_bd (xs := xs) (pl := r) r.toNat
  unfold flr
  generalize tah xs r r.toNat = k at hb ⊢
  obtain ⟨a, rfl⟩ : ∃ a : Nat, k = a := ⟨k.toNat, by omega⟩
  obtain ⟨c, rfl⟩ : ∃ c : Nat, i = c := ⟨i.toNat, by omega⟩
  rw [show ((c : Nat) : Int).toNat = c by omega, tp_bin c a (by omega) (by omega)]
  by_cases d : c < a
  · rw [if_pos (by omega), if_pos d]; exact Cg_rf
  · rw [if_neg (by omega), if_neg d, show ((a : Nat) : Int).toNat = a by omega, show ((c : Int) - (a : Int)).toNat = c - a by omega]
    exact Cg_tr Cg_em (Cg_mul Cg_em Cg_em)
theorem rwv_T {p m r : Int} {xs vs x : Int → Int} (hp : 0 < p) (hm : 0 ≤ m ∧ m ≤ 16) (hr : 0 ≤ r ∧ r < m) (hx : ∀ j : Int, (j < 0 ∨ m ≤ j) → x j = 0) : Cg p (rwv (flm p m xs vs) x m r) (T x (xs r) 64 (tah xs r r.toNat) - vs r) := by
  unfold rwv
  rw [flm_end hm.2]
  refine Cg_sub ?_ Cg_rf
  rw [T_more (N := m.toNat) (M := 64) (fun j hj => hx j (by omega)) (by omega)]
  unfold T
  refine Cg_csum (fun j h0 h1 => ?_)
  show Cg p (flm p m xs vs (17 * r + j) * x j) (x j * tp (xs r) j.toNat (tah xs r r.toNat))
  rw [flm_in (by omega) hm.2, Int.mul_comm]
  exact Cg_mul Cg_rf (flr_tp hp (by omega) (by omega))
/-- the Model's system has FILLED for its answer -/
theorem fill_ex {p m : Int} {xs vs : Int → Int} (hP : IsP p) (hm : 0 ≤ m ∧ m ≤ 16) (hx : Red p xs) : Sol p m m (flm p m xs vs) (itp p xs vs m.toNat).1 := fun r h0 h1 => by
  have hpb := hP.bd
  refine Cg_tr (rwv_T (by omega) hm ⟨h0, h1⟩ (fun j hj => itp_z hP m.toNat (by omega) j (by omega))) ?_
  have h := itp_T (vs := vs) hP hx m.toNat (by omega) r.toNat (by omega)
  rw [show ((r.toNat : Nat) : Int) = r by omega] at h
  exact Cg_tr (Cg_sub h Cg_rf) (Cg_of (by omega))
theorem nds_dv {p : Int} {xs D : Int → Int} (hP : IsP p) (hx : Red p xs) (hD : Fs D) (hD64 : ∀ j : Int, 64 ≤ j → D j = 0) : ∀ t : Nat, t ≤ 16 → (∀ s : Nat, s < t → Cg p (T D (xs (s : Int)) 64 (tah xs (s : Int) s)) 0) → Dv p (nds p xs t) D
  | 0, _, _ => ⟨D, hD, fun j => Cg_of (by
      show conv D one j = D j
      rw [conv_comm hD.1 (Fs_sup (one_sup (N := 1) (by decide))).1, conv_one hD.1])⟩
  | t + 1, ht, h => by
    obtain ⟨q, fq, cq⟩ := nds_dv hP hx hD hD64 t (by omega) (fun s hs => h s (by omega))
    obtain ⟨M, hM⟩ := Fs_nat fq
    have fn := nds_fs (xs := xs) (t := t) hP
    have hn := (nds_ok (xs := xs) (t := t) (N := t + 1) hP (Nat.le_refl _)).1
    have h2 := (T_nds (r := (t : Int)) (xs := xs) fq.1 hM hP t).2
    have hz : ∀ j : Int, ((M + t : Nat) : Int) ≤ j → conv q (nds p xs t) j = 0 := fun j hj => conv_out (la := M) (lb := t + 1) hM (fun i hi => hn.1 i (Or.inr (by omega))) (by omega)
    have h3 : Cg p (T (conv q (nds p xs t)) (xs (t : Int)) (M + t) (tah xs (t : Int) t)) 0 := by
      rw [← T_more hz (show M + t ≤ M + t + 64 by omega)]
      refine Cg_tr (T_cg cq) ?_
      rw [T_more (N := 64) (M := M + t + 64) (fun j hj => hD64 j (by omega)) (by omega)]
      exact h t (by omega)
    have h4 := Cg_tr (Cg_sy h2) h3
    rcases Cg_nz2 hP h4 with g | g
    · obtain ⟨q', fq', cq'⟩ := Rz_fac fq (Rz_of hM g)
      refine ⟨q', fq', fun j => ?_⟩
      have e1 : Cg p (conv q' (pmul p (nds p xs t) (line p (xs (t : Int)))) j) (conv q' (conv (nds p xs t) (line p (xs (t : Int)))) j) := conv_cg (fun _ => Cg_rf) (fun _ => Cg_em)
      have e2 : conv (nds p xs t) (line p (xs (t : Int))) = conv (line p (xs (t : Int))) (nds p xs t) := funext fun i => conv_comm fn.1 line_fs.1
      rw [e2, ← conv_assoc fq'.1 line_fs.1 fn.1] at e1
      exact Cg_tr e1 (Cg_tr (conv_cg cq' (fun _ => Cg_rf)) (cq j))
    · exact absurd g (und_nz hP hx (hx (t : Int)) t)
/-- and no other -/
theorem fill_uq {p m : Int} {xs vs x : Int → Int} (hP : IsP p) (hm : 0 ≤ m ∧ m ≤ 16) (hx : Red p xs) (hr : Red p x) (hz : ∀ j : Int, (j < 0 ∨ m ≤ j) → x j = 0) (hS : Sol p m m (flm p m xs vs) x) : x = (itp p xs vs m.toNat).1 := by
  have hpb := hP.bd
  obtain ⟨k1, k2, -, -, -⟩ := itp_ok (xs := xs) (vs := vs) hP m.toNat (by omega)
  have hz2 := itp_z (xs := xs) (vs := vs) hP m.toNat (by omega)
  have hT := itp_T (vs := vs) hP hx m.toNat (by omega)
  generalize (itp p xs vs m.toNat).1 = F at *
  have fd : Fs (fun j => x j + (-1) * F j) := ⟨fun j hj => by
    show x j + (-1) * F j = 0
    rw [hz j (Or.inl hj), hz2 j (Or.inl hj)]; rfl, m, fun j hj => by
    show x j + (-1) * F j = 0
    rw [hz j (Or.inr hj), hz2 j (by omega)]; rfl⟩
  have hd := nds_dv (xs := xs) (D := fun j => x j + (-1) * F j) hP hx fd (fun j hj => by
    show x j + (-1) * F j = 0
    rw [hz j (by omega), hz2 j (by omega)]; rfl) m.toNat (by omega) (fun s hs => by
      rw [T_lin]
      have e1 := hS (s : Int) (by omega) (by omega)
      have e2 := rwv_T (vs := vs) (xs := xs) (r := (s : Int)) (by omega : 0 < p) hm (by omega) hz
      rw [show ((s : Nat) : Int).toNat = s by omega] at e2
      have e3 := Cg_tr (Cg_sy e2) e1
      have e4 := Cg_add (Cg_add e3 (Cg_rf (a := vs (s : Int)))) (Cg_mul (Cg_rf (a := -1)) (hT s hs))
      exact Cg_tr (Cg_of (by omega)) (Cg_tr e4 (Cg_of (by omega))))
  obtain ⟨n1, n2⟩ := nds_ok (xs := xs) (t := m.toNat) (N := 64) hP (by omega)
  have hd2 : Dv p (nds p xs m.toNat) (fun j => (x j + (-1) * F j) % p) := by
    obtain ⟨q, fq, cq⟩ := hd
    exact ⟨q, fq, fun j => Cg_tr (cq j) (Cg_sy Cg_em)⟩
  have hX : SR p 64 (fun j => (x j + (-1) * F j) % p) := ⟨fun j hj => by
    show (x j + (-1) * F j) % p = 0
    rw [hz j (by omega), hz2 j (by omega)]; rfl, fun j => em_bd (by omega)⟩
  have hl : plen (fun j => (x j + (-1) * F j) % p) 64 ≤ m := plen_le hm.1 (fun j hj _ => by
    show (x j + (-1) * F j) % p = 0
    rw [hz j (by omega), hz2 j (by omega)]; rfl)
  have h0 : plen (fun j => (x j + (-1) * F j) % p) 64 = 0 := by
    have hb := plen_bd (fun j => (x j + (-1) * F j) % p) 64
    by_cases c : 0 < plen (fun j => (x j + (-1) * F j) % p) 64
    · have := (Dv_len hP n1 hX hd2 c).2.1
      omega
    · omega
  funext j
  have e0 : (x j + (-1) * F j) % p = 0 := Sup_z (xs := fun j => (x j + (-1) * F j) % p) hX.1 (by omega)
  have e1 : Cg p (x j + (-1) * F j) 0 := by rw [Cg_iff, e0]; rfl
  have e2 := Cg_add e1 (Cg_rf (a := F j))
  exact Cg_lt (Cg_tr (Cg_of (by omega)) (Cg_tr e2 (Cg_of (by omega)))) (hr j) (k2 j)
