/-! products of linear factors; how many roots there are at most -/
def cnt (s : Int → Int) : Nat → Int
  | 0 => 0
  | t + 1 => cnt s t + (if s (t : Int) = 0 then 0 else 1)
theorem cnt_n {s : Int → Int} {t : Nat} (h : s (t : Int) = 0) : cnt s (t + 1) = cnt s t := by
  show cnt s t + (if s (t : Int) = 0 then 0 else 1) = _
  rw [if_pos h]; omega
theorem cnt_y {s : Int → Int} {t : Nat} (h : s (t : Int) ≠ 0) : cnt s (t + 1) = cnt s t + 1 := by
  show cnt s t + (if s (t : Int) = 0 then 0 else 1) = _
  rw [if_neg h]
theorem cnt_bd {s : Int → Int} : ∀ t : Nat, 0 ≤ cnt s t ∧ cnt s t ≤ t
  | 0 => ⟨Int.le_refl _, Int.le_refl _⟩
  | t + 1 => by
    have := cnt_bd (s := s) t
    by_cases c : s (t : Int) = 0
    · rw [cnt_n c]; omega
    · rw [cnt_y c]; omega
def prd (p : Int) (xs s : Int → Int) : Nat → Int → Int
  | 0 => one
  | t + 1 => if s (t : Int) = 0 then prd p xs s t else pmul p (prd p xs s t) (line p (xs (t : Int)))
theorem prd_n {p : Int} {xs s : Int → Int} {t : Nat} (h : s (t : Int) = 0) : prd p xs s (t + 1) = prd p xs s t := if_pos h
theorem prd_y {p : Int} {xs s : Int → Int} {t : Nat} (h : s (t : Int) ≠ 0) : prd p xs s (t + 1) = pmul p (prd p xs s t) (line p (xs (t : Int))) := if_neg h
theorem prd_ok {p : Int} {xs s : Int → Int} (hP : IsP p) : ∀ t : Nat, Red p (prd p xs s t) ∧ (∀ j : Int, (j < 0 ∨ cnt s t < j) → prd p xs s t j = 0) ∧ prd p xs s t (cnt s t) = 1
  | 0 => ⟨one_red hP, fun j hj => by
      have hj' : j < 0 ∨ 0 < j := hj
      exact (iup_ne (by omega)).trans rfl, (show iup pz 0 1 0 = 1 from iup_at)⟩
  | t + 1 => by
    have hpb := hP.bd
    obtain ⟨h1, h2, h3⟩ := prd_ok (xs := xs) (s := s) hP t
    have hb := cnt_bd (s := s) t
    by_cases c : s (t : Int) = 0
    · rw [prd_n c, cnt_n c]; exact ⟨h1, h2, h3⟩
    · rw [prd_y c, cnt_y c]
      refine ⟨pmul_red (by omega), fun j hj => pmul_out (la := cnt s t + 1) (lb := 2) (fun i hi => h2 i (by omega)) (fun i hi => line_sup i (Or.inr hi)) (by omega), ?_⟩
      have e := conv_top (d := prd p xs s t) (b := line p (xs (t : Int))) (k := cnt s t) (m := 2) (fun i hi => h2 i (Or.inr hi)) (fun i hi => line_sup i (Or.inr hi)) (by omega) (by decide)
      show conv (prd p xs s t) (line p (xs (t : Int))) (cnt s t + 1) % p = 1
      rw [show cnt s t + 1 = cnt s t + 2 - 1 by omega, e, h3]
      have e1 : line p (xs (t : Int)) (2 - 1) = 1 := rfl
      rw [e1, Int.one_mul]
      exact em_id (by omega)
theorem prd_fs {p : Int} {xs s : Int → Int} {t : Nat} (hP : IsP p) : Fs (prd p xs s t) := ⟨fun j hj => (prd_ok hP t).2.1 j (Or.inl hj), cnt s t + 1, fun j hj => (prd_ok hP t).2.1 j (Or.inr (by omega))⟩
theorem prd_SR {p : Int} {xs s : Int → Int} {t N : Nat} (hP : IsP p) (hN : cnt s t + 1 ≤ N) : SR p N (prd p xs s t) ∧ plen (prd p xs s t) N = cnt s t + 1 := by
  obtain ⟨h1, h2, h3⟩ := prd_ok (xs := xs) (s := s) hP t
  have hb := cnt_bd (s := s) t
  refine ⟨⟨fun j hj => h2 j (by omega), h1⟩, plen_eq (by omega) hN (fun j hj _ => h2 j (by omega)) (Or.inr ?_)⟩
  rw [show cnt s t + 1 - 1 = cnt s t by omega, h3]; decide
theorem prd_fsy {p : Int} {xs s : Int → Int} {t : Nat} (hP : IsP p) (c : s (t : Int) ≠ 0) : Fs (pmul p (prd p xs s t) (line p (xs (t : Int)))) := by
  have h := prd_fs (xs := xs) (s := s) (t := t + 1) hP
  rwa [prd_y c] at h
theorem one_rz {p x : Int} (hP : IsP p) (h : Rz p one x) : False := by
  have hpb := hP.bd
  have e := h 1 (fun j hj => (iup_ne (by omega)).trans rfl)
  have e1 : vl one x 1 = 1 := vl1.trans iup_at
  rw [e1] at e
  have := Cg_z e (by omega)
  omega
theorem prd_nz {p x : Int} {xs s : Int → Int} (hP : IsP p) : ∀ t : Nat, (∀ i : Nat, i < t → s (i : Int) ≠ 0 → ¬ Cg p x (xs (i : Int))) → ¬ Rz p (prd p xs s t) x
  | 0, _ => fun h => one_rz hP h
  | t + 1, h => by
    have ih := prd_nz (x := x) (xs := xs) (s := s) hP t (fun i hi hs => h i (by omega) hs)
    by_cases c : s (t : Int) = 0
    · rw [prd_n c]; exact ih
    · rw [prd_y c]
      intro hz
      have hf := prd_fs (xs := xs) (s := s) (t := t) hP
      have hz2 : Rz p (conv (prd p xs s t) (line p (xs (t : Int)))) x := Rz_cg (prd_fsy hP c) (Fs_conv hf line_fs) (fun _ => Cg_em) hz
      rcases Rz_or hP hf line_fs hz2 with g | g
      · exact ih g
      · exact h t (by omega) c (line_rz.mp g)
theorem prd_rz {p : Int} {xs s : Int → Int} (hP : IsP p) : ∀ (t i : Nat), i < t → s (i : Int) ≠ 0 → Rz p (prd p xs s t) (xs (i : Int))
  | 0, i, h, _ => absurd h (by omega)
  | t + 1, i, h, hs => by
    have hf := prd_fs (xs := xs) (s := s) (t := t) hP
    by_cases c : s (t : Int) = 0
    · rw [prd_n c]
      have : i ≠ t := fun z => hs (by rw [z]; exact c)
      exact prd_rz hP t i (by omega) hs
    · rw [prd_y c]
      refine Rz_cg (Fs_conv hf line_fs) (prd_fsy hP c) (fun _ => Cg_sy Cg_em) (Rz_conv hf line_fs ?_)
      by_cases d : i = t
      · rw [d]; exact Or.inr (line_rz.mpr Cg_rf)
      · exact Or.inl (prd_rz hP t i (by omega) hs)
/-- what has these roots is a multiple of the product -/
theorem prd_dv {p : Int} {xs s D : Int → Int} (hP : IsP p) (hD : Fs D) : ∀ t : Nat, (∀ i : Nat, i < t → s (i : Int) ≠ 0 → Rz p D (xs (i : Int))) → (∀ i j : Nat, i < t → j < i → s (i : Int) ≠ 0 → s (j : Int) ≠ 0 → ¬ Cg p (xs (i : Int)) (xs (j : Int))) → Dv p (prd p xs s t) D
  | 0, _, _ => ⟨D, hD, fun j => Cg_of (by
      show conv D one j = D j
      rw [conv_comm hD.1 (Fs_sup (one_sup (N := 1) (by decide))).1, conv_one hD.1])⟩
  | t + 1, h, hd => by
    have ih := prd_dv (xs := xs) (s := s) hP hD t (fun i hi hs => h i (by omega) hs) (fun i j hi hj hs hs' => hd i j (by omega) hj hs hs')
    by_cases c : s (t : Int) = 0
    · rw [prd_n c]; exact ih
    · have hf := prd_fs (xs := xs) (s := s) (t := t) hP
      obtain ⟨q, fq, cq⟩ := ih
      have hz : Rz p (conv q (prd p xs s t)) (xs (t : Int)) := Rz_cg hD (Fs_conv fq hf) (fun j => Cg_sy (cq j)) (h t (by omega) c)
      rcases Rz_or hP fq hf hz with g | g
      · obtain ⟨q', fq', cq'⟩ := Rz_fac fq g
        refine ⟨q', fq', fun j => ?_⟩
        rw [prd_y c]
        have e1 : Cg p (conv q' (pmul p (prd p xs s t) (line p (xs (t : Int)))) j) (conv q' (conv (prd p xs s t) (line p (xs (t : Int)))) j) := conv_cg (fun _ => Cg_rf) (fun _ => Cg_em)
        have e2 : conv (prd p xs s t) (line p (xs (t : Int))) = conv (line p (xs (t : Int))) (prd p xs s t) := funext fun i => conv_comm hf.1 line_fs.1
        rw [e2, ← conv_assoc fq'.1 line_fs.1 hf.1] at e1
        exact Cg_tr e1 (Cg_tr (conv_cg cq' (fun _ => Cg_rf)) (cq j))
      · exact absurd g (prd_nz hP t (fun i hi hs => hd t i (by omega) hi c hs))
theorem cnt_le {p : Int} {xs s D : Int → Int} {N t : Nat} (hP : IsP p) (hD : SR p N D) (hl : 0 < plen D N) (h : ∀ i : Nat, i < t → s (i : Int) ≠ 0 → Rz p D (xs (i : Int))) (hd : ∀ i j : Nat, i < t → j < i → s (i : Int) ≠ 0 → s (j : Int) ≠ 0 → ¬ Cg p (xs (i : Int)) (xs (j : Int))) : cnt s t + 1 ≤ plen D N := by
  have hb := cnt_bd (s := s) t
  have hv := prd_dv hP (SR_fs hD) t h hd
  obtain ⟨g1, g2⟩ := prd_SR (xs := xs) (s := s) (t := t) (N := N + (t + 1)) hP (by omega)
  have e : plen D (N + (t + 1)) = plen D N := plen_more hD.1 (by omega)
  have := (Dv_len hP g1 (SR_up hD (show N ≤ N + (t + 1) by omega)) hv (by omega)).2.1
  omega
/-- too many roots: nothing is left -/
theorem cnt_zero {p : Int} {xs s D : Int → Int} {N t : Nat} (hP : IsP p) (hD : SR p N D) (hl : plen D N ≤ cnt s t) (h : ∀ i : Nat, i < t → s (i : Int) ≠ 0 → Rz p D (xs (i : Int))) (hd : ∀ i j : Nat, i < t → j < i → s (i : Int) ≠ 0 → s (j : Int) ≠ 0 → ¬ Cg p (xs (i : Int)) (xs (j : Int))) (j : Int) : D j = 0 := by
  by_cases c : 0 < plen D N
  · have := cnt_le hP hD c h hd
    omega
  · exact Sup_z hD.1 (by omega)
