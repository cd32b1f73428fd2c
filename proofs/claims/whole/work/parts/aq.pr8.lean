/-! way, sheet, cell, lay -/
theorem Eqa_P {S : SS} {a b : Nat} {k : Int} {v : Option Nat} (h : a ≠ b) : Eqa S (setP S b k v) a := ⟨fun _ => rfl, rfl, fun _ => setP_ne (Or.inl h)⟩
theorem sa_inj {i j : Int} (hi : 0 ≤ i ∧ i < 4) (hj : 0 ≤ j ∧ j < 4) (h : i ≠ j) : sa i + 2 ≤ sa j ∨ sa j + 2 ≤ sa i := by unfold sa; omega
theorem cut_I {so v : Int} (h : IsI v) : IsI (cut_ so v) := by
  unfold IsI at h ⊢
  unfold cut_ b8 b16
  by_cases c0 : so = 0
  · rw [if_pos c0]; omega
  · rw [if_neg c0]
    by_cases c1 : so = 1
    · rw [if_pos c1]; omega
    · rw [if_neg c1]; exact h
section INVS
variable {g : GC} {p : Int} {n : Nat} {sh : SH} {S S' S1 : SS} {F : ZF} {P : ZP} {V : ZV} {T : ZT} {H H2 : ZH} {c : Int} {z y : ZZ}
/-- a WAY more, in the class -/
theorem I_wc {k cut : Int} (hI : INV2 p n sh S (F, P, V, T, H, c) y) (hk : 0 ≤ k ∧ k ≤ 5) (hc : 1 ≤ cut ∧ cut ≤ 16) (hw : V.1 < 8) : INV2 p (n + 2) (sup (sup sh n (.inl 8)) (n + 1) (.inr (1, 33))) (setF (setP (putA (wyT S n k cut) (n + 1) (wtb k cut 32)) 4 V.1 (some n)) 0 5 (V.1 + 1)) (F, P, (V.1 + 1, iup V.2.1 V.1 k, iup V.2.2 V.1 cut), T, H, c) y := by
  have hw0 := I_w hI
  obtain ⟨⟨h1, h2, h3, h4, h5, h6⟩, hM, hF, hn⟩ := hI
  have hn : n = 113 + 2 * V.1.toNat := hn
  have hs : ∀ a : Nat, a < n → sup (sup sh n (.inl 8)) (n + 1) (.inr (1, 33)) a = sh a := fun a ha => by rw [sup_ne (by omega), sup_ne (by omega)]
  have h : ∀ a : Nat, a ≠ 0 → a ≠ 4 → a ≠ n → a ≠ n + 1 → Eqa S (setF (setP (putA (wyT S n k cut) (n + 1) (wtb k cut 32)) 4 V.1 (some n)) 0 5 (V.1 + 1)) a := fun a a0 a4 an a1 =>
    Eqa_tr (Eqa_tr (Eqa_tr (Eqa_tr (Eqa_tr (Eqa_P an) (Eqa_F an)) (Eqa_F an)) (Eqa_A a1)) (Eqa_P a4)) (Eqa_F a0)
  have hF0 : ∀ j : Nat, j ≠ 5 → (setF (setP (putA (wyT S n k cut) (n + 1) (wtb k cut 32)) 4 V.1 (some n)) 0 5 (V.1 + 1)).1 0 j = S.1 0 j := fun j hj => by
    rw [setF_ne (Or.inr hj)]
    show (setF (setF (setP S n 2 (some (n + 1))) n 0 k) n 1 cut).1 0 j = S.1 0 j
    rw [setF_ne (Or.inl (by omega)), setF_ne (Or.inl (by omega))]; rfl
  have hP0 : ∀ j : Int, (setF (setP (putA (wyT S n k cut) (n + 1) (wtb k cut 32)) 4 V.1 (some n)) 0 5 (V.1 + 1)).2.2 0 j = S.2.2 0 j := fun j => by
    show (setP (putA (wyT S n k cut) (n + 1) (wtb k cut 32)) 4 V.1 (some n)).2.2 0 j = S.2.2 0 j
    rw [setP_ne (Or.inl (by decide))]
    show (setP S n 2 (some (n + 1))).2.2 0 j = S.2.2 0 j
    exact setP_ne (Or.inl (by omega))
  have hP4 : ∀ j : Int, j ≠ V.1 → (setF (setP (putA (wyT S n k cut) (n + 1) (wtb k cut 32)) 4 V.1 (some n)) 0 5 (V.1 + 1)).2.2 4 j = S.2.2 4 j := fun j hj => by
    show (setP (putA (wyT S n k cut) (n + 1) (wtb k cut 32)) 4 V.1 (some n)).2.2 4 j = S.2.2 4 j
    rw [setP_ne (Or.inr hj)]
    show (setP S n 2 (some (n + 1))).2.2 4 j = S.2.2 4 j
    exact setP_ne (Or.inl (by omega))
  have hP4w : (setF (setP (putA (wyT S n k cut) (n + 1) (wtb k cut 32)) 4 V.1 (some n)) 0 5 (V.1 + 1)).2.2 4 V.1 = some n := setP_at
  have hF5 : (setF (setP (putA (wyT S n k cut) (n + 1) (wtb k cut 32)) 4 V.1 (some n)) 0 5 (V.1 + 1)).1 0 5 = V.1 + 1 := setF_at
  have hWy : WyW (sup (sup sh n (.inl 8)) (n + 1) (.inr (1, 33))) (setF (setP (putA (wyT S n k cut) (n + 1) (wtb k cut 32)) 4 V.1 (some n)) 0 5 (V.1 + 1)) n k cut (wtb k cut 32) := by
    obtain ⟨w1, w2, w3, w4, w5, w6⟩ := wyT_W (sh := sup sh n (.inl 8)) (S := S) (w := n) (kd := k) (cut := cut) (X := wtb k cut 32) sup_at
    exact ⟨w1, w2, (setP_ne (S := putA (wyT S n k cut) (n + 1) (wtb k cut 32)) (Or.inl (show n ≠ 4 by omega))).trans w3, (setF_ne (Or.inl (show n ≠ 0 by omega))).trans w4, (setF_ne (Or.inl (show n ≠ 0 by omega))).trans w5, w6⟩
  generalize setF (setP (putA (wyT S n k cut) (n + 1) (wtb k cut 32)) 4 V.1 (some n)) 0 5 (V.1 + 1) = S' at h hF0 hP0 hP4 hP4w hF5 hWy ⊢
  generalize sup (sup sh n (.inl 8)) (n + 1) (.inr (1, 33)) = sh' at hs hWy ⊢
  refine ⟨⟨CF_sm (fun a ha => hs a (by omega)) hP0 (fun a ha => h a (by unfold RgF at ha; omega) (by unfold RgF at ha; omega) (by unfold RgF at ha; omega) (by unfold RgF at ha; omega)) h1, CP_sm (fun a ha => hs a (by omega)) (fun a a1 a2 => h a (by omega) (by omega) (by omega) (by omega)) h2, ⟨hF5, by show 0 ≤ V.1 + 1 ∧ V.1 + 1 ≤ 8; omega, fun i i0 i1 => ?_⟩, CT_sm (fun a ha => hs a (by omega)) (hF0 10 (by decide)) (hF0 11 (by decide)) (h 10 (by decide) (by decide) (by omega) (by omega)).2.1 ((h 43 (by decide) (by decide) (by omega) (by omega)).2.2 0) (fun a ha => h a (by omega) (by omega) (by omega) (by omega)) h4, CH_sm (fun a ha => hs a (by omega)) (fun a a1 a2 => h a (by omega) (by omega) (by omega) (by omega)) h5, (hF0 6 (by decide)).trans h6⟩, IM_cl (fun a ha => hs a (by omega)) (fun a a1 a2 => h a (by omega) (by omega) (by omega) (by omega)) hM, fun a ha => ?_, by show n + 2 = 113 + 2 * (V.1 + 1).toNat; omega⟩
  · have i2 : i < V.1 + 1 := i1
    show S'.2.2 4 i = some (wa i) ∧ WyW sh' S' (wa i) (iup V.2.1 V.1 k i) (iup V.2.2 V.1 cut i) (wtb (iup V.2.1 V.1 k i) (iup V.2.2 V.1 cut i) 32) ∧ (0 ≤ iup V.2.1 V.1 k i ∧ iup V.2.1 V.1 k i ≤ 5) ∧ (1 ≤ iup V.2.2 V.1 cut i ∧ iup V.2.2 V.1 cut i ≤ 16)
    by_cases ci : i = V.1
    · subst ci
      have e : wa V.1 = n := by unfold wa; omega
      rw [iup_at, iup_at, e]
      exact ⟨hP4w, hWy, hk, hc⟩
    · rw [iup_ne ci, iup_ne ci]
      obtain ⟨w1, ⟨y1, y2, y3, y4, y5, y6⟩, w3⟩ := h3.2.2 i i0 (show i < V.1 by omega)
      have hb : 113 ≤ wa i ∧ wa i + 1 < n := by unfold wa; omega
      have e1 := h (wa i) (by omega) (by omega) (by omega) (by omega)
      have e2 := h (wa i + 1) (by omega) (by omega) (by omega) (by omega)
      exact ⟨(hP4 i ci).trans w1, ⟨(hs _ (by omega)).trans y1, (hs _ (by omega)).trans y2, (e1.2.2 2).trans y3, (e1.1 0).trans y4, (e1.1 1).trans y5, e2.2.1.trans y6⟩, w3⟩
  · obtain ⟨f1, f2, f3⟩ := hF a (by omega)
    have e := h a (by omega) (by omega) (by omega) (by omega)
    exact ⟨fun j => (e.1 j).trans (f1 j), e.2.1.trans f2, (funext e.2.2).trans f3⟩
theorem I_wm {k cut : Int} (hI : INV2 p n sh S z (F, P, V, T, H, c)) (hk : 0 ≤ k ∧ k ≤ 5) (hc : 1 ≤ cut ∧ cut ≤ 16) (hw : V.1 < 8) : INV2 p n sh (setF (setA (setA S 98 V.1 k) 99 V.1 cut) 96 3 (V.1 + 1)) z (F, P, (V.1 + 1, iup V.2.1 V.1 k, iup V.2.2 V.1 cut), T, H, c) := by
  refine I_md hI (fun a ha => Eqa_tr (Eqa_tr (Eqa_sA (by omega)) (Eqa_sA (by omega))) (Eqa_F (by omega))) ?_
  obtain ⟨h1, h2, h3, h4, h5, h6, h7, h8⟩ := hI.2.1
  have f := fun (j : Nat) (hj : j ≠ 3) => setF_ne (S := setA (setA S 98 V.1 k) 99 V.1 cut) (a := 96) (k := 3) (v := V.1 + 1) (b := 96) (j := j) (Or.inr hj)
  have A : ∀ a : Nat, a ≠ 98 → a ≠ 99 → (setA (setA S 98 V.1 k) 99 V.1 cut).2.1 a = S.2.1 a := fun a a1 a2 => (putA_ne a2).trans (putA_ne a1)
  have e98 : (setA (setA S 98 V.1 k) 99 V.1 cut).2.1 98 = iup (S.2.1 98) V.1 k := by unfold setA; rw [putA_ne (by decide), putA_at]
  have e99 : (setA (setA S 98 V.1 k) 99 V.1 cut).2.1 99 = iup (S.2.1 99) V.1 cut := by unfold setA; rw [putA_at, putA_ne (by decide)]
  refine ⟨MF_eq (fun _ _ => rfl) (f 1 (by decide)) (fun _ => rfl) (A 97 (by decide) (by decide)) h1, MP_eq (fun _ _ => rfl) (f 29 (by decide)) (fun _ => rfl) (A 105 (by decide) (by decide)) (A 106 (by decide) (by decide)) h2, ?_, MT_eq (fun _ _ => rfl) (f 11 (by decide)) (f 12 (by decide)) (f 14 (by decide)) (fun _ => rfl) (A 102 (by decide) (by decide)) (A 103 (by decide) (by decide)) (A 104 (by decide) (by decide)) h4, MH_eq (fun _ _ => rfl) (fun _ => rfl) (A 109 (by decide) (by decide)) (A 110 (by decide) (by decide)) (A 111 (by decide) (by decide)) (A 112 (by decide) (by decide)) h5, (f 6 (by decide)).trans h6, MlW_eq (fun _ _ => rfl) (fun _ => rfl) h7, MrW_eq (fun _ _ => rfl) (fun _ => rfl) (fun r => by rw [show (setF (setA (setA S 98 V.1 k) 99 V.1 cut) 96 3 (V.1 + 1)).2.1 107 = S.2.1 107 from A 107 (by decide) (by decide)]; exact r) h8⟩
  obtain ⟨⟨a1, a2, a3, a4, a5, a6, a7, a8, a9⟩, e⟩ := h3
  have a7' : 0 ≤ V.1 ∧ V.1 ≤ 8 := a7
  refine ⟨⟨a1, a2, a3, a4, a5, setF_at, by show 0 ≤ V.1 + 1 ∧ V.1 + 1 ≤ 8; omega, fun i => ?_, fun i => ?_⟩, fun i i0 i1 => ?_⟩
  · show 0 ≤ (setA (setA S 98 V.1 k) 99 V.1 cut).2.1 98 i ∧ (setA (setA S 98 V.1 k) 99 V.1 cut).2.1 98 i ≤ 5
    rw [e98]
    by_cases ci : i = V.1
    · rw [ci, iup_at]; exact hk
    · rw [iup_ne ci]; exact a8 i
  · show 0 ≤ (setA (setA S 98 V.1 k) 99 V.1 cut).2.1 99 i ∧ (setA (setA S 98 V.1 k) 99 V.1 cut).2.1 99 i ≤ 32
    rw [e99]
    by_cases ci : i = V.1
    · rw [ci, iup_at]; omega
    · rw [iup_ne ci]; exact a9 i
  · have i2 : i < V.1 + 1 := i1
    show (setA (setA S 98 V.1 k) 99 V.1 cut).2.1 98 i = iup V.2.1 V.1 k i ∧ (setA (setA S 98 V.1 k) 99 V.1 cut).2.1 99 i = iup V.2.2 V.1 cut i
    rw [e98, e99]
    by_cases ci : i = V.1
    · rw [ci, iup_at, iup_at, iup_at, iup_at]; exact ⟨rfl, rfl⟩
    · rw [iup_ne ci, iup_ne ci, iup_ne ci, iup_ne ci]
      exact e i i0 (show i < V.1 by omega)
set_option maxHeartbeats 4000000 in
theorem pr_way {k cut : Int} (hI : INV2 p n sh S (F, P, V, T, H, c) (F, P, V, T, H, c)) (rk : IsI k) (rc : IsI cut) : Pair g p vI mX9_way mX10_way 5 2 36 2 [.int (iI k), .int (iI cut)] sh S n := by
  intro Q hk
  have hw := I_w hI
  have hn : n = 113 + 2 * V.1.toNat := hI.2.2.2
  refine c_X9_way (I_W hI) (I_V hI) (by omega) hI.2.2.1 ⟨rk, rc⟩ (fun h0 => ?_) (fun h1 h2' h3 => ?_) (fun h1 h2' h3 => ?_)
  · refine hk (-2) sh S n (I_s96 hI) (fun Q2 h2 => ?_)
    exact c_X10_way (I_MV hI) ⟨rk, rc⟩ (fun _ => h2 S (I_ok hI)) (fun a1 a2 => absurd ⟨a1, a2⟩ h0) (fun a1 a2 => absurd ⟨a1, a2⟩ h0)
  · refine hk (-4) sh S n (I_s96 hI) (fun Q2 h2 => ?_)
    exact c_X10_way (I_MV hI) ⟨rk, rc⟩ (fun h0 => absurd ⟨h1, h2'⟩ h0) (fun _ _ _ => h2 S (I_ok hI)) (fun _ _ a3 => by exfalso; omega)
  · have h4 := I_wc hI h1 h2' h3
    generalize setF (setP (putA (wyT S n k cut) (n + 1) (wtb k cut 32)) 4 V.1 (some n)) 0 5 (V.1 + 1) = S1 at h4 ⊢
    generalize sup (sup sh n (.inl 8)) (n + 1) (.inr (1, 33)) = sh1 at h4 ⊢
    refine hk _ sh1 S1 (n + 2) (I_s96 h4) (fun Q2 h2 => ?_)
    exact c_X10_way (I_MV h4) ⟨rk, rc⟩ (fun h0 => absurd ⟨h1, h2'⟩ h0) (fun _ _ a3 => by exfalso; omega) (fun _ _ _ => h2 _ (I_ok (I_wm h4 h1 h2' h3)))
theorem I_hc (hI : INV2 p n sh S (F, P, V, T, H, c) y) (h : ∀ a : Nat, (a < 64 ∨ 72 ≤ a) → Eqa S S' a) (hH : CH sh S' H2) : INV2 p n sh S' (F, P, V, T, H2, c) y := by
  obtain ⟨⟨h1, h2, h3, h4, h5, h6⟩, hM, hF, hn⟩ := hI
  have e0 := h 0 (by omega)
  exact ⟨⟨CF_sm (fun _ _ => rfl) e0.2.2 (fun a ha => h a (by unfold RgF at ha; omega)) h1, CP_sm (fun _ _ => rfl) (fun a a1 a2 => h a (by omega)) h2, CV_sm (fun _ _ _ => rfl) (e0.1 5) (h 4 (by omega)).2.2 (fun a a1 _ => h a (by omega)) h3, CT_sm (fun _ _ => rfl) (e0.1 10) (e0.1 11) (h 10 (by omega)).2.1 ((h 43 (by omega)).2.2 0) (fun a ha => h a (by omega)) h4, hH, (e0.1 6).trans h6⟩, IM_cl (fun _ _ => rfl) (fun a a1 a2 => h a (by omega)) hM, Fr_eq hF (fun a ha => h a (by omega)), hn⟩
theorem I_hm (hI : INV2 p n sh S z (F, P, V, T, H, c)) (hF : S'.1 = S.1) (hA : ∀ a : Nat, (a < 109 ∨ 112 < a) → S'.2.1 a = S.2.1 a) (hq : S'.2.2 = S.2.2) (hH : MH sh S' H2) : INV2 p n sh S' z (F, P, V, T, H2, c) := by
  have hP : ∀ j : Int, S'.2.2 96 j = S.2.2 96 j := fun j => by rw [hq]
  refine I_md hI (fun a ha => ⟨fun k => by rw [hF], hA a (by omega), fun j => by rw [hq]⟩) ?_
  obtain ⟨h1, h2, h3, h4, h5, h6, h7, h8⟩ := hI.2.1
  have f : ∀ k : Nat, S'.1 96 k = S.1 96 k := fun k => by rw [hF]
  exact ⟨MF_eq (fun _ _ => rfl) (f 1) hP (hA 97 (by decide)) h1, MP_eq (fun _ _ => rfl) (f 29) hP (hA 105 (by decide)) (hA 106 (by decide)) h2, MV_eq (fun _ _ => rfl) (f 3) hP (hA 98 (by decide)) (hA 99 (by decide)) h3, MT_eq (fun _ _ => rfl) (f 11) (f 12) (f 14) hP (hA 102 (by decide)) (hA 103 (by decide)) (hA 104 (by decide)) h4, hH, (f 6).trans h6, MlW_eq (fun _ _ => rfl) hP h7, MrW_eq (fun _ _ => rfl) hP (fun r => by rw [hA 107 (by decide)]; exact r) h8⟩
theorem CH_begin {s so nn : Int} (hH : CH sh S H) (hs : 0 ≤ s ∧ s < 4) (hso : -1 ≤ so ∧ so ≤ 2) (hn : 0 ≤ nn ∧ nn ≤ 40) : CH sh (putA (setF (setF S (sa s) 0 so) (sa s) 1 nn) (sa s + 1) pz) (iup H.1 s so, iup H.2.1 s nn, fun q i => if q = s then 0 else H.2.2 q i) := by
  obtain ⟨h1, h2, h3⟩ := hH
  have hb := sa_bd hs
  have g0 : (putA (setF (setF S (sa s) 0 so) (sa s) 1 nn) (sa s + 1) pz).1 (sa s) 0 = so := (setF_ne (Or.inr (by decide))).trans setF_at
  have g1 : (putA (setF (setF S (sa s) 0 so) (sa s) 1 nn) (sa s + 1) pz).1 (sa s) 1 = nn := setF_at
  have g2 : (putA (setF (setF S (sa s) 0 so) (sa s) 1 nn) (sa s + 1) pz).2.1 (sa s + 1) = pz := putA_at
  have ne : ∀ a : Nat, a ≠ sa s → a ≠ sa s + 1 → Eqa S (putA (setF (setF S (sa s) 0 so) (sa s) 1 nn) (sa s + 1) pz) a := fun a a1 a2 => Eqa_tr (Eqa_tr (Eqa_F a1) (Eqa_F a1)) (Eqa_A a2)
  have r2 : (putA (setF (setF S (sa s) 0 so) (sa s) 1 nn) (sa s + 1) pz).2.2 = S.2.2 := rfl
  generalize putA (setF (setF S (sa s) 0 so) (sa s) 1 nn) (sa s + 1) pz = S' at g0 g1 g2 ne r2 ⊢
  refine ⟨fun i i0 i1 => ?_, fun i j i0 i1 => ?_, fun q q0 q1 => ?_⟩
  · obtain ⟨u1, u2, u3, u4, u5, u6⟩ := h1 i i0 i1
    by_cases ci : i = s
    · subst ci
      exact ⟨u1, u2, by rw [r2]; exact u3, by rw [g0]; exact hso, by rw [g1]; exact hn, by rw [g2]; exact Sup_pz⟩
    · have hd := sa_inj ⟨i0, i1⟩ hs ci
      have e0 := ne (sa i) (by omega) (by omega)
      exact ⟨u1, u2, by rw [r2]; exact u3, by rw [e0.1]; exact u4, by rw [e0.1]; exact u5, by rw [(ne (sa i + 1) (by omega) (by omega)).2.1]; exact u6⟩
  · by_cases ci : i = s
    · subst ci
      rw [g2]
      show -2147483648 ≤ (0 : Int) ∧ (0 : Int) ≤ 2147483647
      decide
    · have hd := sa_inj ⟨i0, i1⟩ hs ci
      rw [(ne (sa i + 1) (by omega) (by omega)).2.1]
      exact h2 i j i0 i1
  · show S'.1 (sa q) 0 = iup H.1 s so q ∧ (iup H.1 s so q ≠ -1 → S'.1 (sa q) 1 = iup H.2.1 s nn q ∧ ∀ i : Int, 0 ≤ i → i < iup H.2.1 s nn q → S'.2.1 (sa q + 1) i = if q = s then 0 else H.2.2 q i)
    by_cases ci : q = s
    · subst ci
      rw [iup_at, iup_at, g0, g1, g2]
      exact ⟨rfl, fun _ => ⟨rfl, fun i _ _ => by rw [if_pos rfl]; rfl⟩⟩
    · have hd := sa_inj ⟨q0, q1⟩ hs ci
      have e0 := ne (sa q) (by omega) (by omega)
      rw [iup_ne ci, iup_ne ci, e0.1, e0.1, (ne (sa q + 1) (by omega) (by omega)).2.1]
      obtain ⟨v1, v2⟩ := h3 q q0 q1
      exact ⟨v1, fun hn => ⟨(v2 hn).1, fun i i0 i1 => by rw [if_neg ci]; exact (v2 hn).2 i i0 i1⟩⟩
set_option maxHeartbeats 4000000 in
theorem pr_sheet {s so nn : Int} (hI : INV2 p n sh S (F, P, V, T, H, c) (F, P, V, T, H, c)) (rs : IsI s) (ro : IsI so) (rn : IsI nn) : Pair g p vI mX9_sheet mX10_sheet 3 0 0 3 [.int (iI s), .int (iI so), .int (iI nn)] sh S n := by
  intro Q hk
  have hH := hI.1.2.2.2.2.1
  have step : ∀ so2 nn2 : Int, (0 ≤ s ∧ s < 4) → (-1 ≤ so2 ∧ so2 ≤ 2) → (0 ≤ nn2 ∧ nn2 ≤ 40) → INV2 p n sh (putA (setF (setF S (sa s) 0 so2) (sa s) 1 nn2) (sa s + 1) pz) (F, P, V, T, (iup H.1 s so2, iup H.2.1 s nn2, fun q i => if q = s then 0 else H.2.2 q i), c) (F, P, V, T, H, c) := fun so2 nn2 a1 a2 a3 => by
    have hb := sa_bd a1
    exact I_hc hI (fun a ha => Eqa_tr (Eqa_tr (Eqa_F (by omega)) (Eqa_F (by omega))) (Eqa_A (by omega))) (CH_begin hH a1 a2 a3)
  refine c_X9_sheet (I_W hI) hH.1 ⟨rs, ro, rn⟩ (fun h0 => ?_) (fun h1 h2' h3 => ?_) (fun h1 h2' h3 => ?_) (fun h1 h2' => ?_)
  · refine hk (-2) sh S n (I_s96 hI) (fun Q2 h2 => ?_)
    exact c_X10_sheet (I_MH hI) rs ro rn (fun _ => h2 S (I_ok hI)) (fun a1 a2 a3 => by exfalso; omega) (fun a1 a2 a3 => by exfalso; omega) (fun a1 a2 => by exfalso; omega)
  · refine hk (-14) sh S n (I_s96 hI) (fun Q2 h2 => ?_)
    exact c_X10_sheet (I_MH hI) rs ro rn (fun a0 => by exfalso; omega) (fun _ _ _ => h2 S (I_ok hI)) (fun a1 a2 a3 => by exfalso; omega) (fun a1 a2 => by exfalso; omega)
  · have h4 := step so nn h1 (by omega) h3
    generalize putA (setF (setF S (sa s) 0 so) (sa s) 1 nn) (sa s + 1) pz = S1 at h4 ⊢
    refine hk 1 sh S1 n (I_s96 hI) (fun Q2 h2 => ?_)
    refine c_X10_sheet (I_MH h4) rs ro rn (fun a0 => by exfalso; omega) (fun a1 a2 a3 => by exfalso; omega) (fun _ _ _ => ?_) (fun a1 a2 => by exfalso; omega)
    refine h2 _ (I_ok (I_hm h4 rfl (fun a ha => ?_) rfl ?_))
    · exact (putA_ne (by omega)).trans ((putA_ne (by omega)).trans ((putA_ne (by omega)).trans (putA_ne (by omega))))
    · obtain ⟨⟨a1, a2, a3, a4, a5, a6, a7, a8, a9, a10, a11, a12, a13, a14⟩, e⟩ := h4.2.1.2.2.2.2.1
      have e109 : (putA (setA (setA (setA S1 109 s 1) 110 s so) 111 s nn) 112 (zfl (S1.2.1 112) (40 * s) nn)).2.1 109 = iup (S1.2.1 109) s 1 := by
        unfold setA; rw [putA_ne (by decide), putA_ne (by decide), putA_ne (by decide), putA_at]
      have e110 : (putA (setA (setA (setA S1 109 s 1) 110 s so) 111 s nn) 112 (zfl (S1.2.1 112) (40 * s) nn)).2.1 110 = iup (S1.2.1 110) s so := by
        unfold setA; rw [putA_ne (by decide), putA_ne (by decide), putA_at, putA_ne (by decide)]
      have e111 : (putA (setA (setA (setA S1 109 s 1) 110 s so) 111 s nn) 112 (zfl (S1.2.1 112) (40 * s) nn)).2.1 111 = iup (S1.2.1 111) s nn := by
        unfold setA; rw [putA_ne (by decide), putA_at, putA_ne (by decide), putA_ne (by decide)]
      have e112 : (putA (setA (setA (setA S1 109 s 1) 110 s so) 111 s nn) 112 (zfl (S1.2.1 112) (40 * s) nn)).2.1 112 = zfl (S1.2.1 112) (40 * s) nn := putA_at
      have r2 : (putA (setA (setA (setA S1 109 s 1) 110 s so) 111 s nn) 112 (zfl (S1.2.1 112) (40 * s) nn)).2.2 = S1.2.2 := rfl
      generalize putA (setA (setA (setA S1 109 s 1) 110 s so) 111 s nn) 112 (zfl (S1.2.1 112) (40 * s) nn) = S2 at e109 e110 e111 e112 r2 ⊢
      have zb : ∀ i : Int, -2147483648 ≤ zfl (S1.2.1 112) (40 * s) nn i ∧ zfl (S1.2.1 112) (40 * s) nn i ≤ 2147483647 := fun i => by
        unfold zfl
        by_cases q : 40 * s ≤ i ∧ i < 40 * s + nn
        · rw [if_pos q]; decide
        · rw [if_neg q]; exact a14 i
      refine ⟨⟨a1, by rw [r2]; exact a2, by rw [r2]; exact a3, by rw [r2]; exact a4, by rw [r2]; exact a5, a6, a7, a8, a9, fun i => ?_, fun i => ?_, fun i => ?_, fun i => ?_, by rw [e112]; exact zb⟩, fun q q0 q1 => ?_⟩
      · rw [e109]
        by_cases ci : i = s
        · rw [ci, iup_at]; decide
        · rw [iup_ne ci]; exact a10 i
      · rw [e110]
        by_cases ci : i = s
        · rw [ci, iup_at]; omega
        · rw [iup_ne ci]; exact a11 i
      · rw [e111]
        by_cases ci : i = s
        · rw [ci, iup_at]; omega
        · rw [iup_ne ci]; exact a12 i
      · rw [e109, e111]
        by_cases ci : i = s
        · rw [ci, iup_at, iup_at]; omega
        · rw [iup_ne ci, iup_ne ci]; exact a13 i
      · rw [e109, e110, e111, e112]
        show (iup (S1.2.1 109) s 1 q = 0 ∧ iup H.1 s so q = -1) ∨ (iup (S1.2.1 109) s 1 q = 1 ∧ iup H.1 s so q ≠ -1 ∧ iup (S1.2.1 110) s so q = iup H.1 s so q ∧ iup (S1.2.1 111) s nn q = iup H.2.1 s nn q ∧ ∀ i : Int, 0 ≤ i → i < iup H.2.1 s nn q → zfl (S1.2.1 112) (40 * s) nn (40 * q + i) = if q = s then 0 else H.2.2 q i)
        by_cases ci : q = s
        · subst ci
          rw [iup_at, iup_at, iup_at, iup_at, iup_at]
          refine Or.inr ⟨rfl, by omega, rfl, rfl, fun i i0 i1 => ?_⟩
          rw [if_pos rfl]
          unfold zfl
          rw [if_pos (by omega)]
        · rw [iup_ne ci, iup_ne ci, iup_ne ci, iup_ne ci, iup_ne ci]
          rcases e q q0 q1 with he | ⟨p1, p2, p3, p4, p5⟩
          · exact Or.inl he
          · refine Or.inr ⟨p1, p2, p3, p4, fun i i0 i1 => ?_⟩
            rw [if_neg ci]
            have hz := a13 q p1
            have p4' : S1.2.1 111 q = H.2.1 q := p4
            unfold zfl
            rw [if_neg (by omega)]
            exact p5 i i0 i1
  · subst h2'
    have h4 := step (-1) 0 h1 (by decide) (by decide)
    generalize putA (setF (setF S (sa s) 0 (-1)) (sa s) 1 0) (sa s + 1) pz = S1 at h4 ⊢
    refine hk 1 sh S1 n (I_s96 hI) (fun Q2 h2 => ?_)
    refine c_X10_sheet (I_MH h4) rs ro rn (fun a0 => by exfalso; omega) (fun a1 a2 a3 => by exfalso; omega) (fun a1 a2 a3 => by exfalso; omega) (fun _ _ => ?_)
    refine h2 _ (I_ok (I_hm h4 rfl (fun a ha => ?_) rfl ?_))
    · exact (putA_ne (by omega)).trans ((putA_ne (by omega)).trans (putA_ne (by omega)))
    · obtain ⟨⟨a1, a2, a3, a4, a5, a6, a7, a8, a9, a10, a11, a12, a13, a14⟩, e⟩ := h4.2.1.2.2.2.2.1
      have e109 : (setA (setA (setA S1 109 s 0) 110 s (-1)) 111 s nn).2.1 109 = iup (S1.2.1 109) s 0 := by
        unfold setA; rw [putA_ne (by decide), putA_ne (by decide), putA_at]
      have e110 : (setA (setA (setA S1 109 s 0) 110 s (-1)) 111 s nn).2.1 110 = iup (S1.2.1 110) s (-1) := by
        unfold setA; rw [putA_ne (by decide), putA_at, putA_ne (by decide)]
      have e111 : (setA (setA (setA S1 109 s 0) 110 s (-1)) 111 s nn).2.1 111 = iup (S1.2.1 111) s nn := by
        unfold setA; rw [putA_at, putA_ne (by decide), putA_ne (by decide)]
      have e112 : (setA (setA (setA S1 109 s 0) 110 s (-1)) 111 s nn).2.1 112 = S1.2.1 112 := by
        unfold setA; rw [putA_ne (by decide), putA_ne (by decide), putA_ne (by decide)]
      have r2 : (setA (setA (setA S1 109 s 0) 110 s (-1)) 111 s nn).2.2 = S1.2.2 := rfl
      generalize setA (setA (setA S1 109 s 0) 110 s (-1)) 111 s nn = S2 at e109 e110 e111 e112 r2 ⊢
      unfold IsI at rn
      refine ⟨⟨a1, by rw [r2]; exact a2, by rw [r2]; exact a3, by rw [r2]; exact a4, by rw [r2]; exact a5, a6, a7, a8, a9, fun i => ?_, fun i => ?_, fun i => ?_, fun i => ?_, by rw [e112]; exact a14⟩, fun q q0 q1 => ?_⟩
      · rw [e109]
        by_cases ci : i = s
        · rw [ci, iup_at]; decide
        · rw [iup_ne ci]; exact a10 i
      · rw [e110]
        by_cases ci : i = s
        · rw [ci, iup_at]; omega
        · rw [iup_ne ci]; exact a11 i
      · rw [e111]
        by_cases ci : i = s
        · rw [ci, iup_at]; omega
        · rw [iup_ne ci]; exact a12 i
      · rw [e109, e111]
        by_cases ci : i = s
        · rw [ci, iup_at, iup_at]; omega
        · rw [iup_ne ci, iup_ne ci]; exact a13 i
      · rw [e109, e110, e111, e112]
        show (iup (S1.2.1 109) s 0 q = 0 ∧ iup H.1 s (-1) q = -1) ∨ (iup (S1.2.1 109) s 0 q = 1 ∧ iup H.1 s (-1) q ≠ -1 ∧ iup (S1.2.1 110) s (-1) q = iup H.1 s (-1) q ∧ iup (S1.2.1 111) s nn q = iup H.2.1 s 0 q ∧ ∀ i : Int, 0 ≤ i → i < iup H.2.1 s 0 q → S1.2.1 112 (40 * q + i) = if q = s then 0 else H.2.2 q i)
        by_cases ci : q = s
        · subst ci
          rw [iup_at, iup_at]
          exact Or.inl ⟨rfl, rfl⟩
        · rw [iup_ne ci, iup_ne ci, iup_ne ci, iup_ne ci, iup_ne ci]
          rcases e q q0 q1 with he | ⟨p1, p2, p3, p4, p5⟩
          · exact Or.inl he
          · exact Or.inr ⟨p1, p2, p3, p4, fun i i0 i1 => by rw [if_neg ci]; exact p5 i i0 i1⟩
end INVS
