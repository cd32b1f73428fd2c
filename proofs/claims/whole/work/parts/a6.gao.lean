/-! put right: both sides find the same -/
theorem quo_uq {p : Int} {N : Nat} {C F x y r : Int → Int} (hP : IsP p) (hC : SR p N C) (hm : 0 < plen C N) (hx : Fs x) (hy : Fs y) (rx : Red p x) (ry : Red p y) (hr : Red p r) (zr : ∀ j : Int, (j < 0 ∨ plen C N - 1 ≤ j) → r j = 0) (e : ∀ j : Int, Cg p (conv x C j + r j) (F j)) (e' : ∀ j : Int, Cg p (conv y C j) (F j)) : x = y ∧ r = pz := by
  have hpb := hP.bd
  have er : r = pz := Rst_uq hP hC hm hx hy hr (Red_pz (by omega)) zr (fun _ _ => rfl) e (fun j => Cg_tr (Cg_of (Int.add_zero _)) (e' j))
  refine ⟨?_, er⟩
  have hz : ∀ j : Int, Cg p (conv (fun j => x j + (-1) * y j) C j) 0 := fun j => by
    rw [conv_addl (a := x) (a' := fun j => (-1) * y j), conv_mull]
    have e1 := e j
    rw [er] at e1
    have e2 : Cg p (conv x C j) (F j) := Cg_tr (Cg_of (Int.add_zero _).symm) e1
    have e3 := Cg_sub e2 (e' j)
    exact Cg_tr (Cg_of (by omega)) (Cg_tr e3 (Cg_of (by omega)))
  have h := conv_can hP (Fs_add hx (Fs_mul (f := -1) hy)) hC hm hz
  funext j
  have e2 := Cg_add (h j) (Cg_rf (a := y j))
  exact Cg_lt (Cg_tr (Cg_of (by omega)) (Cg_tr e2 (Cg_of (Int.zero_add _)))) (rx j) (ry j)
theorem tah_0 {xs : Int → Int} {r : Int} : ∀ t : Nat, tah xs r t = 0 ↔ ∀ j : Nat, j < t → xs (j : Int) ≠ xs r
  | 0 => ⟨fun _ j hj => absurd hj (by omega), fun _ => rfl⟩
  | t + 1 => by
    have ih := tah_0 (xs := xs) (r := r) t
    have hb := tah_bd (xs := xs) (pl := r) t
    have e : tah xs r (t + 1) = tah xs r t + (if xs (t : Int) = xs r then 1 else 0) := rfl
    rw [e]
    by_cases c : xs (t : Int) = xs r
    · rw [if_pos c]
      exact ⟨fun h => absurd h (by omega), fun h => absurd c (h t (by omega))⟩
    · rw [if_neg c, Int.add_zero, ih]
      refine ⟨fun h j hj => ?_, fun h j hj => h j (by omega)⟩
      by_cases d : j = t
      · rw [d]; exact c
      · exact h j (by omega)
def Unl (xs : Int → Int) (m : Int) : Prop := ∀ i : Int, 0 ≤ i → i < m → ∀ j : Int, 0 ≤ j → j < i → xs i ≠ xs j
theorem Unl_tah {xs : Int → Int} {m : Int} : Unl xs m ↔ ∀ i : Int, 0 ≤ i → i < m → tah xs i i.toNat = 0 := by
  constructor
  · intro h i h0 h1
    rw [tah_0]
    exact fun j hj e => h i h0 h1 j (by omega) (by omega) e.symm
  · intro h i h0 h1 j j0 j1 e
    have := (tah_0 i.toNat).mp (h i h0 h1) j.toNat (by omega)
    rw [show ((j.toNat : Nat) : Int) = j by omega] at this
    exact this e.symm
theorem Unl_cg {p m : Int} {xs : Int → Int} (hx : Red p xs) (h : Unl xs m) {i j : Nat} (hi : (i : Int) < m) (hj : j < i) : ¬ Cg p (xs (i : Int)) (xs (j : Int)) := fun e => h i (by omega) hi j (by omega) (by omega) (Cg_lt e (hx _) (hx _))
def wsl (p : Int) (f xs vs : Int → Int) : Int → Int := fun j => if ev f (xs j) 64 % p = vs j then 0 else 1
def rsl (p : Int) (f xs vs : Int → Int) : Int → Int := fun j => if ev f (xs j) 64 % p = vs j then 1 else 0
theorem wsl_cnt {p : Int} {f xs vs : Int → Int} : ∀ t : Nat, cnt (wsl p f xs vs) t = wrg p f xs vs t
  | 0 => rfl
  | t + 1 => by
    show cnt (wsl p f xs vs) t + (if wsl p f xs vs (t : Int) = 0 then 0 else 1) = wrg p f xs vs t + (if ev f (xs (t : Int)) 64 % p = vs (t : Int) then 0 else 1)
    rw [wsl_cnt t]
    unfold wsl
    by_cases c : ev f (xs (t : Int)) 64 % p = vs (t : Int)
    · rw [if_pos c, if_pos rfl]
    · rw [if_neg c, if_neg (by decide)]
theorem rsl_cnt {p : Int} {f xs vs : Int → Int} : ∀ t : Nat, cnt (rsl p f xs vs) t = t - wrg p f xs vs t
  | 0 => rfl
  | t + 1 => by
    have ih := rsl_cnt (p := p) (f := f) (xs := xs) (vs := vs) t
    show cnt (rsl p f xs vs) t + (if rsl p f xs vs (t : Int) = 0 then 0 else 1) = ((t + 1 : Nat) : Int) - (wrg p f xs vs t + (if ev f (xs (t : Int)) 64 % p = vs (t : Int) then 0 else 1))
    rw [ih]
    unfold rsl
    by_cases c : ev f (xs (t : Int)) 64 % p = vs (t : Int)
    · rw [if_pos c, if_neg (by decide)]; omega
    · rw [if_neg c, if_pos rfl]; omega
/-- a right place -/
theorem rsl_v {p : Int} {f xs vs : Int → Int} {j : Int} (h : rsl p f xs vs j ≠ 0) : ev f (xs j) 64 % p = vs j := by
  unfold rsl at h
  by_cases c : ev f (xs j) 64 % p = vs j
  · exact c
  · rw [if_neg c] at h; exact absurd rfl h
theorem wsl_or {p : Int} {f xs vs : Int → Int} {j : Int} : wsl p f xs vs j ≠ 0 ∨ ev f (xs j) 64 % p = vs j := by
  unfold wsl
  by_cases c : ev f (xs j) 64 % p = vs j
  · exact Or.inr c
  · rw [if_neg c]; exact Or.inl (by decide)
theorem ev_cg {p x v : Int} {f : Int → Int} {N : Nat} (h : ev f x 64 % p = v) (hf : Sup f 64) (hN : 64 ≤ N) : Cg p (vl f x N) v := by
  rw [vl_more (N := 64) (fun j hj => hf j (Or.inr hj)) hN, ← ev_vl, ← h]
  exact Cg_sy Cg_em
/-- the values of a difference x - y z -/
theorem vl_dif {a b c : Int → Int} {x : Int} {L M N K : Nat} (hc : Zn c) (za : ∀ j : Int, (L : Int) ≤ j → a j = 0) (zb : ∀ j : Int, (M : Int) ≤ j → b j = 0) (zc : ∀ j : Int, (N : Int) ≤ j → c j = 0) (hK : M + N ≤ K) (hL : L ≤ K) : vl (fun j => a j + (-1) * conv b c j) x K = vl a x L - vl b x M * vl c x N := by
  rw [← vl_conv (x := x) hc zb zc hK, ← vl_more (x := x) za hL]
  unfold vl
  have e : csum (fun j => (a j + (-1) * conv b c j) * x ^ j.toNat) K = csum (fun j => a j * x ^ j.toNat + (-1) * (conv b c j * x ^ j.toNat)) K := csum_congr (fun j _ _ => by
    show (a j + (-1) * conv b c j) * x ^ j.toNat = a j * x ^ j.toNat + (-1) * (conv b c j * x ^ j.toNat)
    rw [Int.add_mul, Int.mul_assoc])
  rw [e, csum_add, csum_mul (f := fun j => conv b c j * x ^ j.toNat)]
  omega
/-- nothing of a length of at most m has m roots -/
theorem all_roots {p : Int} {m N : Nat} {xs D : Int → Int} (hP : IsP p) (hx : Red p xs) (hu : Unl xs m) (hD : Fs D) (hm : m ≤ N) (hz : ∀ j : Int, (m : Int) ≤ j → D j = 0) (h : ∀ i : Nat, i < m → Rz p D (xs (i : Int))) (j : Int) : Cg p (D j) 0 := by
  have hpb := hP.bd
  have hX : SR p N (fun j => D j % p) := ⟨fun j hj => by
    show D j % p = 0
    rcases hj with hj | hj
    · rw [hD.1 j hj, Int.zero_emod]
    · rw [hz j (by omega), Int.zero_emod], fun j => em_bd (by omega)⟩
  have hl : plen (fun j => D j % p) N ≤ m := plen_le (by omega) (fun j hj _ => by
    show D j % p = 0
    rw [hz j hj, Int.zero_emod])
  have e := cnt_zero (xs := xs) (s := fun _ => 1) (t := m) hP hX (by rw [cnt_all]; exact hl) (fun i hi _ => Rz_cg hD (SR_fs hX) (fun _ => Cg_sy Cg_em) (h i hi)) (fun i j hi hj _ _ => Unl_cg hx hu (by omega) hj) j
  rw [Cg_iff]
  have e' : D j % p = 0 := e
  rw [e', Int.zero_emod]
/-- the class's way (Gao's) finds what is right, if there is such -/
theorem gao {p m k : Int} {xs vs f : Int → Int} {c : Nat} (hP : IsP p) (hm : 0 ≤ m ∧ m ≤ 16) (hk : 1 ≤ k ∧ k ≤ m) (hx : Red p xs) (hu : Unl xs m) (hf : SR p 64 f) (hfl : plen f 64 ≤ k) (hfw : wrg p f xs vs m.toNat ≤ (m - k) / 2) (h1 : ∀ s : Nat, s < c → (m + k + 1) / 2 < plen (eu p (itp p xs vs m.toNat).2 (itp p xs vs m.toNat).1 s).2.1 64) (h2 : plen (eu p (itp p xs vs m.toNat).2 (itp p xs vs m.toNat).1 c).2.1 64 ≤ (m + k + 1) / 2) : (pdiv p (eu p (itp p xs vs m.toNat).2 (itp p xs vs m.toNat).1 c).2.1 (eu p (itp p xs vs m.toNat).2 (itp p xs vs m.toNat).1 c).2.2.2 (plen (eu p (itp p xs vs m.toNat).2 (itp p xs vs m.toNat).1 c).2.1 64) (plen (eu p (itp p xs vs m.toNat).2 (itp p xs vs m.toNat).1 c).2.2.2 64)).1 = f := by
  have hpb := hP.bd
  obtain ⟨k1, k2, k3, k4, k5⟩ := itp_ok (xs := xs) (vs := vs) hP m.toNat (by omega)
  have kz := itp_z (xs := xs) (vs := vs) hP m.toNat (by omega)
  have hT := itp_T (vs := vs) hP hx m.toNat (by omega)
  have hN : (itp p xs vs m.toNat).2 = nds p xs m.toNat := itp_2 _
  rw [hN] at h1 h2 k3 k4 k5 ⊢
  obtain ⟨n1, n2⟩ := nds_ok (xs := xs) (t := m.toNat) (N := 64) hP (by omega)
  have nr : ∀ i : Nat, i < m.toNat → Rz p (nds p xs m.toNat) (xs (i : Int)) := fun i hi => by
    rw [nds_prd]
    exact prd_rz hP _ i hi (by decide)
  generalize (itp p xs vs m.toNat).1 = F at *
  generalize nds p xs m.toNat = Nd at *
  have hFl : plen F 64 ≤ m := plen_le hm.1 (fun j hj _ => kz j (by omega))
  have h10 : ∀ s : Nat, s < c → 0 < plen (eu p Nd F s).2.1 64 := fun s hs => by have := h1 s hs; omega
  have hF64 : SR p 64 F := ⟨k1, k2⟩
  have lN : plen Nd 64 ≤ 64 := (plen_bd Nd 64).2
  have IE := (eu_I hP (Int.le_refl 64) n1 hF64 lN (plen_bd F 64).2 c h10).1
  have EX := eu_X hP (Int.le_refl 64) n1 hF64 lN (by omega) c h10
  have CB := (eu_Cb hP (Int.le_refl 64) hF64 n1 (plen_bd F 64).2 lN c h10).2
  have ho : (m + k + 1) / 2 < plen (eu p Nd F c).1 64 := by
    cases c with
    | zero =>
      show (m + k + 1) / 2 < plen Nd 64
      omega
    | succ c => exact h1 c (by omega)
  have hvl : 0 < plen (eu p Nd F c).2.2.2 64 := by
    have := plen_bd (eu p Nd F c).2.2.1 64
    have := EX.2.2
    omega
  have ex2 := EX.2.1
  have hw := IE.2.1
  have hv := IE.2.2.2.1
  generalize (eu p Nd F c).1 = o at *
  generalize (eu p Nd F c).2.1 = w at *
  generalize (eu p Nd F c).2.2.2 = v at *
  -- values of v and w
  have hvw : ∀ i : Nat, i < m.toNat → Cg p (vl w (xs (i : Int)) 64) (vl v (xs (i : Int)) 64 * vs (i : Int)) := fun i hi => by
    obtain ⟨s, fs, cs⟩ := CB
    obtain ⟨L, hL⟩ := Fs_nat fs
    have e1 := vl_conv (a := v) (b := F) (x := xs (i : Int)) (N := 64) (M := 64) (K := L + 64 + 128) (SR_zn hF64) (fun j hj => hv.1 j (Or.inr hj)) (fun j hj => k1 j (Or.inr hj)) (by omega)
    have e2 := vl_conv (a := s) (b := Nd) (x := xs (i : Int)) (N := L) (M := 64) (K := L + 64 + 128) (SR_zn n1) hL (fun j hj => n1.1 j (Or.inr hj)) (by omega)
    have e3 : vl (fun j => conv v F j + conv s Nd j) (xs (i : Int)) (L + 64 + 128) = vl (conv v F) (xs (i : Int)) (L + 64 + 128) + vl (conv s Nd) (xs (i : Int)) (L + 64 + 128) := by
      unfold vl
      rw [← csum_add]
      exact csum_congr (fun j _ _ => Int.add_mul _ _ _)
    have e4 := vl_cg (x := xs (i : Int)) (N := L + 64 + 128) cs
    rw [e3, e1, e2, vl_more (N := 64) (fun j hj => hw.1 j (Or.inr hj)) (by omega)] at e4
    have e5 := nr i hi 64 (fun j hj => n1.1 j (Or.inr hj))
    have e6 := hT i hi
    have et : tah xs (i : Int) i = 0 := by
      have := Unl_tah.mp hu (i : Int) (by omega) (by omega)
      rwa [show ((i : Nat) : Int).toNat = i by omega] at this
    rw [et, T_zero] at e6
    refine Cg_tr (Cg_sy e4) (Cg_tr (Cg_add (Cg_mul Cg_rf e6) (Cg_mul Cg_rf e5)) (Cg_of ?_))
    rw [Int.mul_zero, Int.add_zero]
  have hE := prd_SR (p := p) (xs := xs) (s := wsl p f xs vs) (t := m.toNat) (N := 64) hP (by rw [wsl_cnt]; have := (wrg_bd (p := p) (r := f) (xs := xs) (vs := vs) m.toNat).2; omega)
  rw [wsl_cnt] at hE
  have hEz : ∀ i : Nat, i < m.toNat → wsl p f xs vs (i : Int) ≠ 0 → Rz p (prd p xs (wsl p f xs vs) m.toNat) (xs (i : Int)) := fun i hi hs => prd_rz hP _ i hi hs
  generalize prd p xs (wsl p f xs vs) m.toNat = E at *
  have hwb := wrg_bd (p := p) (r := f) (xs := xs) (vs := vs) m.toNat
  -- w less v f
  have fG : Fs (fun j => w j + (-1) * conv v f j) := Fs_add (SR_fs hw) (Fs_mul (Fs_conv (SR_fs hv) (SR_fs hf)))
  have bw_ := plen_bd w 64
  have bf := plen_bd f 64
  have zG : ∀ j : Int, m - (m - k) / 2 ≤ j → (fun j => w j + (-1) * conv v f j) j = 0 := fun j hj => by
    show w j + (-1) * conv v f j = 0
    rw [Sup_z hw.1 (by omega), conv_out (la := plen v 64) (lb := plen f 64) (fun i hi => Sup_z hv.1 (by omega)) (fun i hi => Sup_z hf.1 (by omega)) (by omega)]
    rfl
  have hGz : ∀ j : Int, Cg p ((fun j => w j + (-1) * conv v f j) j) 0 := by
    refine conv_can hP fG hE.1 (by omega) (fun j => ?_)
    refine all_roots (m := m.toNat) (N := 64) hP hx (by rw [show ((m.toNat : Nat) : Int) = m by omega]; exact hu) (Fs_conv fG (SR_fs hE.1)) (by omega) (fun j hj => conv_out (la := m - (m - k) / 2) (lb := wrg p f xs vs m.toNat + 1) zG (fun i hi => Sup_z hE.1.1 (by omega)) (by omega)) (fun i hi => Rz_conv fG (SR_fs hE.1) ?_) j
    rcases wsl_or (p := p) (f := f) (xs := xs) (vs := vs) (j := (i : Int)) with g | g
    · exact Or.inr (hEz i hi g)
    · refine Or.inl (Rz_of (N := 128) (fun j hj => zG j (by omega)) ?_)
      rw [vl_dif (L := 64) (M := 64) (N := 64) (SR_zn hf) (fun j hj => hw.1 j (Or.inr hj)) (fun j hj => hv.1 j (Or.inr hj)) (fun j hj => hf.1 j (Or.inr hj)) (by decide) (by decide)]
      have e1 := ev_cg (N := 64) g hf.1 (by decide)
      exact Cg_tr (Cg_sub (hvw i hi) (Cg_mul Cg_rf e1)) (Cg_of (Int.sub_self _))
  have hS := pdv hP hw hv hvl
  refine (quo_uq (F := w) hP hv hvl (DivS_fs hS).1 (SR_fs hf) hS.1 hf.2 hS.2.1 hS.2.2.2.1 hS.2.2.1 (fun j => ?_)).1
  have e1 := Cg_add (hGz j) (Cg_rf (a := conv v f j))
  rw [conv_comm (SR_zn hf) (SR_zn hv)]
  exact Cg_sy (Cg_tr (Cg_of (by dsimp only; omega)) (Cg_tr e1 (Cg_of (by omega))))
