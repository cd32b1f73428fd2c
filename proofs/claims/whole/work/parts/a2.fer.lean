/-! x to the power p less x; what seekRoots makes -/
def mono (n : Nat) : Int → Int := iup pz (n : Int) 1
theorem mono_fs {n : Nat} : Fs (mono n) := Fs_sup (N := n + 1) (Sup_iup Sup_pz (by omega))
theorem mono_out {n : Nat} {j : Int} (h : (n : Int) < j) : mono n j = 0 := (iup_ne (by omega)).trans rfl
theorem mono_conv {n : Nat} {b : Int → Int} {j : Int} (hb : Zn b) : conv (mono n) b j = b (j - n) := by
  unfold mono
  rw [conv_iup (q := pz) rfl (by omega) hb, conv_pz, Int.zero_add, Int.one_mul]
theorem mono_mono {m n : Nat} : conv (mono m) (mono n) = mono (m + n) := funext fun j => by
  rw [mono_conv mono_fs.1]
  by_cases c : j = ((m + n : Nat) : Int)
  · rw [c, show ((m + n : Nat) : Int) - m = n by omega]
    exact iup_at.trans iup_at.symm
  · have e1 : mono n (j - m) = 0 := (iup_ne (by omega)).trans rfl
    have e2 : mono (m + n) j = 0 := (iup_ne c).trans rfl
    rw [e1, e2]
theorem mono_vl {n N : Nat} {x : Int} (h : n < N) : vl (mono n) x N = x ^ n := by
  unfold vl
  have e : csum (fun j => mono n j * x ^ j.toNat) N = csum (fun j => if j = (n : Int) then x ^ n else 0) N := csum_congr (fun j _ _ => by
    show mono n j * x ^ j.toNat = if j = (n : Int) then x ^ n else 0
    by_cases c : j = (n : Int)
    · rw [if_pos c, c]
      have : mono n (n : Int) = 1 := iup_at
      rw [this, Int.one_mul]; rfl
    · rw [if_neg c]
      have : mono n j = 0 := (iup_ne c).trans rfl
      rw [this, Int.zero_mul])
  rw [e, csum_one, if_pos (by omega)]
theorem line0 {p : Int} (hP : IsP p) : line p 0 = mono 1 := funext fun j => by
  have hpb := hP.bd
  show (if j = 0 then (-0) % p else if j = 1 then 1 else 0) = iup pz 1 1 j
  by_cases c : j = 0
  · rw [if_pos c, iup_ne (by omega)]; exact Int.zero_emod p
  · rw [if_neg c]
    by_cases d : j = 1
    · rw [if_pos d, d, iup_at]
    · rw [if_neg d, iup_ne d]; rfl
/-- alike but for a multiple of a -/
def Md (p : Int) (a X Y : Int → Int) : Prop := Dv p a (fun j => X j + (-1) * Y j)
theorem Md_cg {p : Int} {a X Y X1 Y1 : Int → Int} (h : Md p a X Y) (hx : ∀ j : Int, Cg p (X j) (X1 j)) (hy : ∀ j : Int, Cg p (Y j) (Y1 j)) : Md p a X1 Y1 := by
  obtain ⟨q, fq, cq⟩ := h
  exact ⟨q, fq, fun j => Cg_tr (cq j) (Cg_add (hx j) (Cg_mul Cg_rf (hy j)))⟩
theorem Md_rf {p : Int} {a X : Int → Int} : Md p a X X := Dv_pz (fun j => by show X j + (-1) * X j = 0; omega)
theorem Md_tr {p : Int} {a X Y Z : Int → Int} (h : Md p a X Y) (h' : Md p a Y Z) : Md p a X Z := by
  obtain ⟨q, fq, cq⟩ := h
  obtain ⟨r, fr, cr⟩ := h'
  refine ⟨fun j => q j + r j, Fs_add fq fr, fun j => ?_⟩
  rw [conv_addl]
  exact Cg_tr (Cg_add (cq j) (cr j)) (Cg_of (by dsimp only; omega))
theorem Md_mul {p : Int} {a X Y X' Y' : Int → Int} (ha : Zn a) (fX : Fs X) (fY : Fs Y) (fY' : Fs Y') (h : Md p a X Y) (h' : Md p a X' Y') : Md p a (conv X X') (conv Y Y') := by
  obtain ⟨q, fq, cq⟩ := h
  obtain ⟨r, fr, cr⟩ := h'
  refine ⟨fun j => conv X r j + conv Y' q j, Fs_add (Fs_conv fX fr) (Fs_conv fY' fq), fun j => ?_⟩
  rw [conv_addl, conv_assoc fX.1 fr.1 ha, conv_assoc fY'.1 fq.1 ha]
  have e1 : Cg p (conv X (conv r a) j) (conv X (fun j => X' j + (-1) * Y' j) j) := conv_cg (fun _ => Cg_rf) cr
  have e2 : Cg p (conv Y' (conv q a) j) (conv Y' (fun j => X j + (-1) * Y j) j) := conv_cg (fun _ => Cg_rf) cq
  rw [conv_addr (b := X') (b' := fun j => (-1) * Y' j), conv_mulr] at e1
  rw [conv_addr (b := X) (b' := fun j => (-1) * Y j), conv_mulr] at e2
  have e3 : conv Y' X j = conv X Y' j := conv_comm fY'.1 fX.1
  have e4 : conv Y' Y j = conv Y Y' j := conv_comm fY'.1 fY.1
  rw [e3, e4] at e2
  exact Cg_tr (Cg_add e1 e2) (Cg_of (by dsimp only; omega))
theorem Md_rst {p la lb : Int} {a q r X : Int → Int} (h : DivS p X a q r la lb) : Md p a r X := by
  refine ⟨fun j => (-1) * q j, Fs_mul (DivS_fs h).1, fun j => ?_⟩
  rw [conv_mull]
  have e := Cg_sub (Cg_rf (a := r j)) (h.2.2.1 j)
  exact Cg_tr (Cg_of (by omega)) (Cg_tr e (Cg_of (by dsimp only; omega)))
theorem pow2_pos {k : Nat} : (0 : Int) < 2 ^ k := Int.pow_pos (by decide)
theorem sk_Md {p : Int} {a : Int → Int} (hP : IsP p) (ha : SR p 32 a) (hl : 0 < plen a 64) : ∀ t : Nat, t ≤ 13 → Md p a (sk p a t) (mono (p / 2 ^ (13 - t)).toNat)
  | 0, _ => by
    have hpb := hP.bd
    have e : (p / 2 ^ (13 - 0)).toNat = 0 := by
      have : p / 2 ^ (13 - 0) = 0 := Int.ediv_eq_zero_of_lt (by omega) (by show p < 8192; omega)
      rw [this]; rfl
    rw [e]
    exact Md_rf
  | t + 1, ht => by
    have hpb := hP.bd
    have ih := sk_Md hP ha hl t (by omega)
    have hok := sk_ok hP ha.1 ha.2 (by decide) hl t
    obtain ⟨k1, k2, k3, -⟩ := skm_ok (t := t) hP hok.1 hok.2.2
    have a64 := SR_up ha (show 32 ≤ 64 by decide)
    have hS := pdv hP (show SR p 64 (skm p (sk p a t) t) from ⟨k1, k2⟩) a64 hl
    have h1 : Md p a (sk p a (t + 1)) (skm p (sk p a t) t) := Md_rst hS
    refine Md_tr h1 ?_
    have fs := Fs_sup hok.1
    have zn := SR_zn ha
    have h2 : Md p a (pmul p (sk p a t) (sk p a t)) (mono ((p / 2 ^ (13 - t)).toNat + (p / 2 ^ (13 - t)).toNat)) := by
      rw [← mono_mono]
      exact Md_cg (Md_mul zn fs mono_fs mono_fs ih ih) (fun _ => Cg_sy Cg_em) (fun _ => Cg_rf)
    have hq : p / 2 ^ (13 - t) = p / 2 ^ (12 - t) / 2 := by
      rw [show 13 - t = (12 - t) + 1 by omega, Int.pow_succ, Int.ediv_ediv_of_nonneg (Int.le_of_lt pow2_pos)]
    have hn : 0 ≤ p / 2 ^ (12 - t) := Int.ediv_nonneg (by omega) (Int.le_of_lt pow2_pos)
    rw [show 13 - (t + 1) = 12 - t by omega]
    rw [hq] at h2
    unfold skm
    generalize p / 2 ^ (12 - t) = e at h2 hn ⊢
    by_cases c : e % 2 = 1
    · rw [if_pos c, line0 hP]
      have h3 := Md_mul zn (Fs_sup k3) mono_fs (mono_fs (n := 1)) h2 (Md_rf (X := mono 1))
      rw [mono_mono, show (e / 2).toNat + (e / 2).toNat + 1 = e.toNat by omega] at h3
      exact Md_cg h3 (fun _ => Cg_sy Cg_em) (fun _ => Cg_rf)
    · rw [if_neg c]
      rw [show (e / 2).toNat + (e / 2).toNat = e.toNat by omega] at h2
      exact h2
/-- x to the power p less x -/
def xpx (p : Int) : Int → Int := fun j => mono p.toNat j + (-1) * mono 1 j
theorem xpx_fs {p : Int} : Fs (xpx p) := Fs_add mono_fs (Fs_mul mono_fs)
theorem skx_Md {p : Int} {a : Int → Int} (hP : IsP p) (ha : SR p 32 a) (hl : 0 < plen a 64) : Md p a (skx p a) (xpx p) := by
  have h := sk_Md hP ha hl 13 (Nat.le_refl _)
  rw [show 13 - 13 = 0 from rfl, Int.pow_zero, Int.ediv_one] at h
  obtain ⟨q, fq, cq⟩ := h
  refine ⟨q, fq, fun j => Cg_tr (cq j) ?_⟩
  have e : Cg p (skx p a j) (sk p a 13 j + (-1) * line p 0 j) := by
    show Cg p ((sk p a 13 j + (-1) * line p 0 (j - 0)) % p) _
    rw [Int.sub_zero]
    exact Cg_em
  rw [line0 hP] at e
  refine Cg_tr ?_ (Cg_add (Cg_sy e) (Cg_rf (a := (-1) * xpx p j)))
  unfold xpx
  exact Cg_of (by dsimp only; omega)
theorem fermat {p : Int} {x : Nat} (hP : IsP p) (hx : (x : Int) < p) : Rz p (xpx p) x := by
  have hpb := hP.bd
  refine Rz_of (N := p.toNat + 1) (fun j hj => ?_) ?_
  · unfold xpx
    rw [mono_out (by omega), mono_out (by omega)]; rfl
  · have e1 : vl (xpx p) x (p.toNat + 1) = (x : Int) ^ p.toNat + (-1) * (x : Int) := by
      have e2 : vl (xpx p) x (p.toNat + 1) = vl (mono p.toNat) x (p.toNat + 1) + (-1) * vl (mono 1) x (p.toNat + 1) := by
        unfold vl xpx
        rw [← csum_mul, ← csum_add]
        refine csum_congr (fun j _ _ => ?_)
        show (mono p.toNat j + (-1) * mono 1 j) * (x : Int) ^ j.toNat = mono p.toNat j * (x : Int) ^ j.toNat + (-1) * (mono 1 j * (x : Int) ^ j.toNat)
        rw [Int.add_mul, Int.mul_assoc]
      rw [e2, mono_vl (by omega), mono_vl (by omega), Int.pow_succ, Int.pow_zero, Int.one_mul]
    rw [e1]
    by_cases c : x = 0
    · subst c
      have : ((0 : Nat) : Int) ^ p.toNat = 0 := by
        rw [show p.toNat = (p.toNat - 1) + 1 by omega, Int.pow_succ]
        exact Int.mul_zero _
      rw [this]
      exact Cg_of (by decide)
    · have hi := inv_cg hP (show 0 < (x : Int) ∧ (x : Int) < p by omega)
      have h2 : Cg p ((x : Int) * (x : Int) ^ (p - 2).toNat) 1 := Cg_tr (Cg_mul Cg_rf (Cg_sy Cg_em)) hi
      have h3 : (x : Int) ^ p.toNat = (x : Int) * ((x : Int) * (x : Int) ^ (p - 2).toNat) := by
        rw [show p.toNat = (p - 2).toNat + 1 + 1 by omega, Int.pow_succ, Int.pow_succ, Int.mul_comm ((x : Int) ^ (p - 2).toNat), Int.mul_comm ((x : Int) * _)]
      rw [h3]
      exact Cg_tr (Cg_add (Cg_mul Cg_rf h2) Cg_rf) (Cg_of (by omega))
