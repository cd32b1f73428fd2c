/-! roots: both sides find the same -/
theorem Rz_add {p x : Int} {a b : Int → Int} (ha : Fs a) (hb : Fs b) (h : Rz p a x) (h' : Rz p b x) : Rz p (fun j => a j + b j) x := by
  obtain ⟨N, hN⟩ := Fs_nat ha
  obtain ⟨M, hM⟩ := Fs_nat hb
  refine Rz_of (N := N + M) (fun j hj => by show a j + b j = 0; rw [hN j (by omega), hM j (by omega)]; rfl) ?_
  have e : vl (fun j => a j + b j) x (N + M) = vl a x (N + M) + vl b x (N + M) := by
    unfold vl
    rw [← csum_add]
    exact csum_congr (fun j _ _ => Int.add_mul _ _ _)
  rw [e]
  exact Cg_tr (Cg_add (h (N + M) (fun j hj => hN j (by omega))) (h' (N + M) (fun j hj => hM j (by omega)))) (Cg_of (by omega))
def rsel (p : Int) (a : Int → Int) (N : Nat) : Int → Int := fun j => if ev a j N % p = 0 then 1 else 0
theorem rsel_rz {p : Int} {a : Int → Int} {N : Nat} {j : Int} (h : Sup a N) : rsel p a N j ≠ 0 ↔ Rz p a j := by
  rw [Rz_ev (N := N) (fun i hi => h i (Or.inr hi))]
  unfold rsel
  by_cases c : ev a j N % p = 0
  · rw [if_pos c]; exact ⟨fun _ => c, fun _ => by decide⟩
  · rw [if_neg c]; exact ⟨fun z => absurd rfl z, fun z => absurd z c⟩
theorem nat_cg {p : Int} {i j : Nat} (hi : (i : Int) < p) (hj : j < i) : ¬ Cg p (i : Int) (j : Int) := fun h => by
  have := Cg_lt h (by omega) (by omega)
  omega
theorem rsel_le {p : Int} {a : Int → Int} {N : Nat} (hP : IsP p) (ha : SR p N a) (hl : 0 < plen a N) : cnt (rsel p a N) p.toNat + 1 ≤ plen a N := by
  have hpb := hP.bd
  exact cnt_le (xs := fun j => j) hP ha hl (fun i _ hs => (rsel_rz ha.1).mp hs) (fun i j hi hj _ _ => nat_cg (by omega) hj)
theorem rct_cnt {p : Int} {a O : Int → Int} : ∀ t : Nat, (t : Int) ≤ p → (∀ x : Nat, (x : Int) < p → (ev O x 64 % p = 0 ↔ ev a x 80 % p = 0)) → rct p a t = cnt (rsel p O 64) t
  | 0, _, _ => rfl
  | t + 1, ht, h => by
    have ih := rct_cnt t (by omega) h
    by_cases c : ev a (t : Int) 80 % p = 0
    · rw [rct_y c, cnt_y (by unfold rsel; rw [if_pos ((h t (by omega)).mpr c)]; decide), ih]
    · rw [rct_n c, cnt_n (by unfold rsel; rw [if_neg (fun z => c ((h t (by omega)).mp z))]), ih]
theorem roots_main {p : Int} {a : Int → Int} {k : Nat} (hP : IsP p) (ha : SR p 32 a) (hl : plen a 32 ≠ 0) (h1 : ∀ s : Nat, s < k → 0 < plen (eu p a (skx p a) s).2.1 64) (h2 : plen (eu p a (skx p a) k).2.1 64 ≤ 0) : SR p 64 (eu p a (skx p a) k).1 ∧ (∀ x : Nat, (x : Int) < p → (ev (eu p a (skx p a) k).1 x 64 % p = 0 ↔ ev a x 80 % p = 0)) ∧ rct p a p.toNat = plen (eu p a (skx p a) k).1 64 - 1 := by
  have hpb := hP.bd
  have ba := plen_bd a 32
  have a64 := SR_up ha (show 32 ≤ 64 by decide)
  have l64 : plen a 64 = plen a 32 := plen_more ha.1 (by decide)
  have hl64 : 0 < plen a 64 := by omega
  have hok := sk_ok hP ha.1 ha.2 (by decide) hl64 13
  have hx64 : SR p 64 (skx p a) := ⟨padd_S hok.2.1 hok.1 (Sup_up line_sup (by decide)), padd_red (by omega)⟩
  have la : plen a 64 ≤ 64 := (plen_bd a 64).2
  have lb : plen (skx p a) 64 ≤ 64 := (plen_bd _ 64).2
  have hMd := skx_Md hP ha hl64
  have IE := (eu_I hP (Int.le_refl 64) a64 hx64 la lb k h1).1
  have zE : ∀ i : Int, (eu p a (skx p a) k).2.1 i = 0 := fun i => Sup_z IE.2.1.1 (by have := plen_bd (eu p a (skx p a) k).2.1 64; omega)
  have dE := fun (D : Int → Int) (hD : Zn D) => eu_Dv (D := D) hP (Int.le_refl 64) a64 hx64 la lb hD k h1
  have hO := IE.1
  have E1 := (dE _ (SR_zn hO)).mpr ⟨Dv_rf (SR_zn hO), Dv_pz zE⟩
  generalize (eu p a (skx p a) k).1 = O at *
  have hO0 := (Dv_len hP hO a64 E1.1 hl64).1
  have hiff : ∀ x : Nat, (x : Int) < p → (ev O x 64 % p = 0 ↔ ev a x 80 % p = 0) := fun x hx => by
    have a80 := SR_up ha (show 32 ≤ 80 by decide)
    rw [← Rz_ev (N := 64) (fun j hj => hO.1 j (Or.inr hj)), ← Rz_ev (N := 80) (fun j hj => a80.1 j (Or.inr hj))]
    refine ⟨fun h => Rz_dv (SR_fs hO) (SR_fs ha) E1.1 h, fun h => ?_⟩
    have d1 : Dv p (line p x) a := Rz_fac (SR_fs ha) h
    have fd : Fs (fun j => skx p a j + (-1) * xpx p j) := Fs_add (SR_fs hx64) (Fs_mul xpx_fs)
    have r1 : Rz p (fun j => skx p a j + (-1) * xpx p j) x := Rz_dv (SR_fs ha) fd hMd h
    have r2 := Rz_add fd xpx_fs r1 (fermat hP hx)
    have r3 : Rz p (skx p a) x := Rz_cg (Fs_add fd xpx_fs) (SR_fs hx64) (fun j => Cg_of (by omega)) r2
    have d2 : Dv p (line p x) (skx p a) := Rz_fac (SR_fs hx64) r3
    exact Rz_dv line_fs (SR_fs hO) ((dE _ line_fs.1).mp ⟨d1, d2⟩).1 (line_rz.mpr Cg_rf)
  refine ⟨hO, hiff, ?_⟩
  -- the other factor of x^p - x
  have hX : Dv p O (xpx p) := by
    obtain ⟨q, fq, cq⟩ := hMd
    refine Dv_lin (s := fun j => (-1) * q j) (SR_zn hO) (Fs_mul fq) E1.1 E1.2 (fun j => ?_)
    rw [conv_mull]
    exact Cg_tr (Cg_add (Cg_mul (Cg_rf (a := -1)) (cq j)) (Cg_rf (a := skx p a j))) (Cg_of (by dsimp only; omega))
  obtain ⟨h0, fh0, ch0⟩ := hX
  obtain ⟨N, hN⟩ := Fs_nat fh0
  have hh : SR p N (fun j => h0 j % p) := ⟨fun j hj => by
    show h0 j % p = 0
    rcases hj with hj | hj
    · rw [fh0.1 j hj, Int.zero_emod]
    · rw [hN j hj, Int.zero_emod], fun j => em_bd (by omega)⟩
  have ch : ∀ j : Int, Cg p (conv (fun j => h0 j % p) O j) (xpx p j) := fun j => Cg_tr (conv_cg (fun _ => Cg_em) (fun _ => Cg_rf)) (ch0 j)
  generalize (fun j => h0 j % p) = h at hh ch
  have xp : xpx p p = 1 := by
    unfold xpx
    have e1 : mono p.toNat p = 1 := by
      have : mono p.toNat ((p.toNat : Nat) : Int) = 1 := iup_at
      rwa [show ((p.toNat : Nat) : Int) = p by omega] at this
    have e2 : mono 1 p = 0 := mono_out (by omega)
    rw [e1, e2]; rfl
  have hh0 : 0 < plen h N := by
    have hb := plen_bd h N
    by_cases c : 0 < plen h N
    · exact c
    · have e : conv h O p = 0 := by
        have hz : ∀ i : Int, h i = 0 := fun i => Sup_z hh.1 (by omega)
        unfold conv
        exact csum_zero (fun i _ _ => by show h i * O (p - i) = 0; rw [hz, Int.zero_mul])
      have e2 := ch p
      rw [e, xp] at e2
      have := Cg_z (Cg_sy e2) (by omega)
      omega
  have hdeg : plen h N - 1 + (plen O 64 - 1) ≤ p := by
    by_cases c : plen h N - 1 + (plen O 64 - 1) ≤ p
    · exact c
    · have ht := conv_top (d := h) (b := O) (k := plen h N - 1) (m := plen O 64) (fun j hj => Sup_z hh.1 (by omega)) (fun j hj => Sup_z hO.1 (by omega)) (by omega) (by omega)
      have e2 := ch (plen h N - 1 + plen O 64 - 1)
      have ez : xpx p (plen h N - 1 + plen O 64 - 1) = 0 := by
        unfold xpx
        rw [mono_out (by omega), mono_out (by omega)]; rfl
      rw [ht, ez] at e2
      have l1 := plen_lead hh0
      have l2 := plen_lead hO0
      have r1 := hh.2 (plen h N - 1)
      exact absurd (Cg_z (Cg_nz hP (show 0 < h (plen h N - 1) ∧ h (plen h N - 1) < p by omega) e2) (hO.2 _)) l2
  have c1 := rsel_le hP hO hO0
  have c2 := rsel_le hP hh hh0
  have hsum : ∀ t : Nat, (t : Int) ≤ p → (t : Int) ≤ cnt (rsel p O 64) t + cnt (rsel p h N) t := by
    intro t
    induction t with
    | zero => intro _; exact Int.le_refl 0
    | succ t ih =>
      intro ht
      have ih := ih (by omega)
      have hz := Rz_cg xpx_fs (Fs_conv (SR_fs hh) (SR_fs hO)) (fun j => Cg_sy (ch j)) (fermat (x := t) hP (by omega))
      rcases Rz_or hP (SR_fs hh) (SR_fs hO) hz with g | g
      · rw [cnt_y ((rsel_rz hh.1).mpr g)]
        by_cases c : rsel p O 64 (t : Int) = 0
        · rw [cnt_n c]; omega
        · rw [cnt_y c]; omega
      · rw [cnt_y ((rsel_rz hO.1).mpr g)]
        by_cases c : rsel p h N (t : Int) = 0
        · rw [cnt_n c]; omega
        · rw [cnt_y c]; omega
  have h3 := hsum p.toNat (by omega)
  rw [rct_cnt p.toNat (by omega) hiff]
  omega
theorem rct_mono {p : Int} {a : Int → Int} {x : Nat} : ∀ k : Nat, rct p a x ≤ rct p a (x + k)
  | 0 => Int.le_refl _
  | k + 1 => by
    have := rct_mono (p := p) (a := a) (x := x) k
    show rct p a x ≤ rct p a (x + k + 1)
    by_cases c : ev a ((x + k : Nat) : Int) 80 % p = 0
    · rw [rct_y c]; omega
    · rw [rct_n c]; exact this
theorem rct_first {p : Int} {a : Int → Int} {x : Nat} : ∀ k : Nat, rct p a x < rct p a (x + k) → ∃ d : Nat, x ≤ d ∧ d < x + k ∧ ev a (d : Int) 80 % p = 0 ∧ rct p a d = rct p a x
  | 0, h => by
    rw [Nat.add_zero] at h
    omega
  | k + 1, h => by
    by_cases c : rct p a x < rct p a (x + k)
    · obtain ⟨d, h1, h2, h3, h4⟩ := rct_first k c
      exact ⟨d, h1, by omega, h3, h4⟩
    · have hm := rct_mono (p := p) (a := a) (x := x) k
      by_cases e : ev a ((x + k : Nat) : Int) 80 % p = 0
      · exact ⟨x + k, by omega, by omega, e, by omega⟩
      · have : rct p a (x + k + 1) = rct p a (x + k) := rct_n e
        have h' : rct p a x < rct p a (x + k + 1) := h
        omega
theorem srt_ok {p i : Int} {a : Int → Int} (hP : IsP p) : ∀ (k x : Nat) (left : Int) (res : Int → Int), (x : Int) + k = p → SR p 64 res → (∀ d : Nat, x ≤ d → (d : Int) < p → (ev res d 64 % p = 0 ↔ ev a d 80 % p = 0)) → rct p a p.toNat - rct p a x = plen res 64 - 1 → 0 ≤ left → left < plen res 64 - 1 → rct p a x + left = i → ∃ d : Nat, srt p k x left res = d ∧ (d : Int) < p ∧ ev a (d : Int) 80 % p = 0 ∧ rct p a d = i
  | 0, x, left, res, hx, _, _, hr, h0, hlt, _ => by
    have : x = p.toNat := by omega
    rw [this] at hr
    omega
  | k + 1, x, left, res, hx, hR, hiff, hr, h0, hlt, hi => by
    have hpb := hP.bd
    have hbl := plen_bd res 64
    unfold srt
    rw [if_neg (by omega)]
    by_cases c2 : plen res 64 = 2
    · rw [if_pos c2]
      obtain ⟨d, d1, d2, d3, d4⟩ := rct_first (p := p) (a := a) (x := x) (k + 1) (by rw [show x + (k + 1) = p.toNat by omega]; omega)
      refine ⟨d, ?_, by omega, d3, by omega⟩
      have hz := (hiff d d1 (by omega)).mpr d3
      rw [← Rz_ev (N := 64) (fun j hj => hR.1 j (Or.inr hj))] at hz
      have hv := hz 2 (fun j hj => Sup_z hR.1 (by omega))
      have ev2 : vl res d 2 = res 0 + res 1 * d := vl2
      rw [ev2] at hv
      have hlead := plen_lead (xs := res) (N := 64) (by omega)
      rw [c2] at hlead
      have hl1 : res (2 - 1) = res 1 := rfl
      rw [hl1] at hlead
      have r1 := hR.2 1
      have hinv := inv_cg hP (show 0 < res 1 ∧ res 1 < p by omega)
      have e1 : Cg p (-(res 0)) (res 1 * d) := by
        have := Cg_add hv (Cg_rf (a := -(res 0)))
        exact Cg_sy (Cg_tr (Cg_of (by omega)) (Cg_tr this (Cg_of (by omega))))
      have e2 : Cg p ((-(res 0)) % p * inv p (res 1)) (res 1 * inv p (res 1) * d) := Cg_tr (Cg_mul (Cg_tr Cg_em e1) Cg_rf) (Cg_of (by rw [Int.mul_assoc, Int.mul_comm (d : Int), Int.mul_assoc]))
      have e3 := Cg_tr e2 (Cg_mul hinv Cg_rf)
      rw [Int.one_mul] at e3
      exact Cg_lt (Cg_tr Cg_em e3) (em_bd (by omega)) (by omega)
    · rw [if_neg c2]
      by_cases c3 : ev res x 64 % p = 0
      · rw [if_neg (fun z => z c3)]
        have ca := (hiff x (Nat.le_refl _) (by omega)).mp c3
        by_cases c4 : left = 0
        · rw [if_pos c4]
          exact ⟨x, rfl, by omega, ca, by omega⟩
        · rw [if_neg c4]
          have hL2 : plen (line p x) 64 = 2 := by
            rw [plen_more line_sup (by decide)]; exact line_len
          have l64 : SR p 64 (line p (x : Int)) := ⟨Sup_up line_sup (by decide), line_red hP⟩
          have hz : Rz p res x := (Rz_ev (N := 64) (fun j hj => hR.1 j (Or.inr hj))).mpr c3
          have hd := Rz_fac (SR_fs hR) hz
          have hq := quo_pos hP l64 hR (by omega) hd (by omega)
          have hc := Dv_quo hP l64 hR (by omega) hd
          rw [hL2] at hq hc
          generalize (pdiv p res (line p x) (plen res 64) 2).1 = q at hq hc
          have hql : plen q 64 = plen res 64 - 1 := by
            have bq := plen_bd q 64
            have ht := conv_top (d := q) (b := line p (x : Int)) (k := plen q 64 - 1) (m := 2) (fun j hj => Sup_z hq.1.1 (by omega)) (fun j hj => line_sup j (Or.inr hj)) (by omega) (by decide)
            have e1 : line p (x : Int) (2 - 1) = 1 := rfl
            rw [e1, Int.mul_one] at ht
            have lq := plen_lead hq.2
            refine (fun (e : plen res 64 = plen q 64 + 1) => by omega) (plen_eq (by omega) ?_ (fun j hj _ => ?_) (Or.inr ?_))
            · have hne : res (plen q 64 - 1 + 2 - 1) ≠ 0 := fun z => by
                have := hc (plen q 64 - 1 + 2 - 1)
                rw [ht, z] at this
                exact lq (Cg_z this (hq.1.2 _))
              have := plen_gt hR.1 hne
              omega
            · have e := hc j
              rw [conv_out (la := plen q 64) (lb := 2) (fun i hi => Sup_z hq.1.1 (by omega)) (fun i hi => line_sup i (Or.inr hi)) (by omega)] at e
              exact Cg_z (Cg_sy e) (hR.2 j)
            · intro z
              have e := hc (plen q 64 - 1 + 2 - 1)
              rw [show plen q 64 - 1 + 2 - 1 = plen q 64 + 1 - 1 by omega] at e ht
              rw [ht, z] at e
              exact lq (Cg_z e (hq.1.2 _))
          have hrx : rct p a (x + 1) = rct p a x + 1 := rct_y ca
          refine srt_ok hP k (x + 1) (left - 1) q (by omega) hq.1 (fun d hd1 hd2 => ?_) (by omega) (by omega) (by omega) (by omega)
          rw [← hiff d (by omega) hd2, ← Rz_ev (N := 64) (fun j hj => hR.1 j (Or.inr hj)), ← Rz_ev (N := 64) (fun j hj => hq.1.1 j (Or.inr hj))]
          have fq := SR_fs hq.1
          refine ⟨fun h => Rz_cg (Fs_conv fq line_fs) (SR_fs hR) hc (Rz_conv fq line_fs (Or.inl h)), fun h => ?_⟩
          rcases Rz_or hP fq line_fs (Rz_cg (SR_fs hR) (Fs_conv fq line_fs) (fun j => Cg_sy (hc j)) h) with g | g
          · exact g
          · exact absurd (line_rz.mp g) (nat_cg hd2 (by omega))
      · rw [if_pos c3]
        have hrx : rct p a (x + 1) = rct p a x := rct_n (fun z => c3 ((hiff x (Nat.le_refl _) (by omega)).mpr z))
        exact srt_ok hP k (x + 1) left res (by omega) hR (fun d hd1 hd2 => hiff d (by omega) hd2) (by omega) h0 hlt (by omega)
