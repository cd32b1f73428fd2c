/-! place, leave, see, told, value, look, power, relation, fill, right -/
section INVS
variable {g : GC} {p : Int} {n : Nat} {sh : SH} {S S' : SS} {F : ZF} {P : ZP} {V : ZV} {T : ZT} {H : ZH} {c : Int} {z y : ZZ}
theorem I_31 (hI : INV2 p n sh S (F, P, V, T, H, c) y) : S.2.1 31 = P.1 := hI.1.2.1.2.1
theorem I_32 (hI : INV2 p n sh S (F, P, V, T, H, c) y) : S.2.1 32 = P.2.1 := hI.1.2.1.2.2.1
theorem I_105 (hI : INV2 p n sh S z (F, P, V, T, H, c)) : S.2.1 105 = P.1 := hI.2.1.2.1.2.1
theorem I_106 (hI : INV2 p n sh S z (F, P, V, T, H, c)) : S.2.1 106 = P.2.1 := hI.2.1.2.1.2.2
theorem I_m (hI : INV2 p n sh S (F, P, V, T, H, c) y) : 0 ≤ P.2.2 ∧ P.2.2 ≤ 16 := (I_L hI).2.2.2.2.2.2.2.2.2.2.1
theorem I_rx (hI : INV2 p n sh S (F, P, V, T, H, c) y) : Red p P.1 := by
  rw [← I_31 hI]; exact (I_L hI).2.2.2.2.2.2.2.2.2.2.2.1
theorem I_rv (hI : INV2 p n sh S (F, P, V, T, H, c) y) : Red p P.2.1 := by
  rw [← I_32 hI]; exact (I_L hI).2.2.2.2.2.2.2.2.2.2.2.2.1
theorem Fr_eq (h : Fr S n) (e : ∀ a : Nat, n ≤ a → Eqa S S' a) : Fr S' n := fun a ha => by
  obtain ⟨f1, f2, f3⟩ := h a ha
  have e := e a ha
  exact ⟨fun k => (e.1 k).trans (f1 k), e.2.1.trans f2, (funext e.2.2).trans f3⟩
theorem I_plc {xs vs : Int → Int} {m : Int} (hI : INV2 p n sh S (F, P, V, T, H, c) y) (h : ∀ a : Nat, a ≠ 30 → a ≠ 31 → a ≠ 32 → Eqa S S' a) (hp30 : ∀ j : Int, S'.2.2 30 j = S.2.2 30 j) (h4 : S'.1 30 4 = m) (hm : 0 ≤ m ∧ m ≤ 16) (e31 : S'.2.1 31 = xs) (e32 : S'.2.1 32 = vs) (r1 : Red p xs) (r2 : Red p vs) : INV2 p n sh S' (F, (xs, vs, m), V, T, H, c) y := by
  obtain ⟨⟨h1, h2, h3, h4', h5, h6⟩, hM, hF, hn⟩ := hI
  have e0 := h 0 (by decide) (by decide) (by decide)
  refine ⟨⟨CF_sm (fun _ _ => rfl) e0.2.2 (fun a ha => h a (by unfold RgF at ha; omega) (by unfold RgF at ha; omega) (by unfold RgF at ha; omega)) h1, ?_, CV_sm (fun _ _ _ => rfl) (e0.1 5) (h 4 (by decide) (by decide) (by decide)).2.2 (fun a a1 _ => h a (by omega) (by omega) (by omega)) h3, CT_sm (fun _ _ => rfl) (e0.1 10) (e0.1 11) (h 10 (by decide) (by decide) (by decide)).2.1 ((h 43 (by decide) (by decide) (by decide)).2.2 0) (fun a ha => h a (by omega) (by omega) (by omega)) h4', CH_sm (fun _ _ => rfl) (fun a a1 a2 => h a (by omega) (by omega) (by omega)) h5, (e0.1 6).trans h6⟩, IM_cl (fun _ _ => rfl) (fun a a1 a2 => h a (by omega) (by omega) (by omega)) hM, Fr_eq hF (fun a ha => h a (by omega) (by omega) (by omega)), hn⟩
  obtain ⟨⟨g30, p0, p1, p2, p3, p5, p6, g31, g32, hm', hmb, r31, r32, R33, R35⟩, -, -, a, b, c', x7, x8, x9, hP3, ra, rb, rc⟩ := h2
  have hR : ∀ (a N : Nat), 33 ≤ a → Row p sh S a N → Row p sh S' a N := fun a N a1 r => Row_sm r rfl rfl (h a (by omega) (by omega) (by omega)) (h (a + 1) (by omega) (by omega) (by omega))
  have hQ := hP3
  obtain ⟨c1, c2, c3, -⟩ := hQ
  exact ⟨⟨g30, (hp30 0).trans p0, (hp30 1).trans p1, (hp30 2).trans p2, (hp30 3).trans p3, (hp30 5).trans p5, (hp30 6).trans p6, g31, g32, h4, hm, by rw [e31]; exact r1, by rw [e32]; exact r2, hR 33 64 (by decide) R33, hR 35 64 (by decide) R35⟩, e31, e32, a, b, c', (hp30 7).trans x7, (hp30 8).trans x8, (hp30 9).trans x9, hP3, hR a 64 (by omega) ra, hR b 64 (by omega) rb, hR c' 64 (by omega) rc⟩
theorem I_plm {xs vs : Int → Int} {m : Int} (hI : INV2 p n sh S z (F, P, V, T, H, c)) (hF : ∀ a k : Nat, (a ≠ 96 ∨ k ≠ 29) → S'.1 a k = S.1 a k) (hA : ∀ a : Nat, a ≠ 105 → a ≠ 106 → S'.2.1 a = S.2.1 a) (hq : S'.2.2 = S.2.2) (h29 : S'.1 96 29 = m) (hm : 0 ≤ m ∧ m ≤ 16) (e105 : S'.2.1 105 = xs) (e106 : S'.2.1 106 = vs) (r1 : Red p xs) (r2 : Red p vs) : INV2 p n sh S' z (F, (xs, vs, m), V, T, H, c) := by
  have hP : ∀ j : Int, S'.2.2 96 j = S.2.2 96 j := fun j => by rw [hq]
  refine I_md hI (fun a ha => ⟨fun k => hF a k (Or.inl (by omega)), hA a (by omega) (by omega), fun j => by rw [hq]⟩) ?_
  obtain ⟨h1, h2, h3, h4, h5, h6, h7, h8⟩ := hI.2.1
  have f := fun (k : Nat) (hk : k ≠ 29) => hF 96 k (Or.inr hk)
  refine ⟨MF_eq (fun _ _ => rfl) (f 1 (by decide)) hP (hA 97 (by decide) (by decide)) h1, ?_, MV_eq (fun _ _ => rfl) (f 3 (by decide)) hP (hA 98 (by decide) (by decide)) (hA 99 (by decide) (by decide)) h3, MT_eq (fun _ _ => rfl) (f 11 (by decide)) (f 12 (by decide)) (f 14 (by decide)) hP (hA 102 (by decide) (by decide)) (hA 103 (by decide) (by decide)) (hA 104 (by decide) (by decide)) h4, MH_eq (fun _ _ => rfl) hP (hA 109 (by decide) (by decide)) (hA 110 (by decide) (by decide)) (hA 111 (by decide) (by decide)) (hA 112 (by decide) (by decide)) h5, (f 6 (by decide)).trans h6, MlW_eq (fun _ _ => rfl) hP h7, MrW_eq (fun _ _ => rfl) hP (fun r => by rw [hA 107 (by decide) (by decide)]; exact r) h8⟩
  obtain ⟨⟨a1, a2, a3, a4, a5, a6, a7, a8⟩, -, -⟩ := h2
  exact ⟨⟨(hP 30).trans a1, (hP 31).trans a2, a3, a4, h29, hm, by rw [e105]; exact r1, by rw [e106]; exact r2⟩, e105, e106⟩
set_option maxHeartbeats 4000000 in
theorem pr_place {x : Int} (hI : INV2 p n sh S (F, P, V, T, H, c) (F, P, V, T, H, c)) (rx : IsI x) : Pair g p vI mX9_place mX10_place 2 0 0 2 [.int (iI x)] sh S n := by
  intro Q hk
  have hpb := (I_P hI).bd
  have hm := I_m hI
  refine c_X9_place (I_W hI) (I_L hI) rx (fun h0 => ?_) (fun hlt => ?_)
  · refine hk (-4) sh S n (I_s96 hI) (fun Q2 h2 => ?_)
    exact c_X10_place (I_M hI) (I_MP hI) rx (fun _ => h2 S (I_ok hI)) (fun h1 => by exfalso; omega)
  · have rb := em_bd (z := x) (p := p) (by omega)
    have h1 : INV2 p n sh (setF (setA (setA S 31 P.2.2 (x % p)) 32 P.2.2 0) 30 4 (P.2.2 + 1)) (F, (iup P.1 P.2.2 (x % p), iup P.2.1 P.2.2 0, P.2.2 + 1), V, T, H, c) (F, P, V, T, H, c) := by
      refine I_plc hI (fun a a1 a2 a3 => Eqa_tr (Eqa_tr (Eqa_sA a2) (Eqa_sA a3)) (Eqa_F a1)) (fun _ => rfl) setF_at (by omega) ?_ ?_ (Red_iup (I_rx hI) rb) (Red_iup (I_rv hI) (by omega))
      · show (setA (setA S 31 P.2.2 (x % p)) 32 P.2.2 0).2.1 31 = _
        unfold setA
        rw [putA_ne (by decide), putA_at, I_31 hI]
      · show (setA (setA S 31 P.2.2 (x % p)) 32 P.2.2 0).2.1 32 = _
        unfold setA
        rw [putA_at, putA_ne (by decide), I_32 hI]
    generalize setF (setA (setA S 31 P.2.2 (x % p)) 32 P.2.2 0) 30 4 (P.2.2 + 1) = S1 at h1 ⊢
    refine hk _ sh _ n (I_s96 hI) (fun Q2 h2 => ?_)
    refine c_X10_place (I_M h1) (I_MP h1) rx (fun h3 => by exfalso; omega) (fun _ => ?_)
    refine h2 _ (I_ok (z := (F, (iup P.1 P.2.2 (x % p), iup P.2.1 P.2.2 0, P.2.2 + 1), V, T, H, c)) (I_plm h1 (fun a k ha => setF_ne ha) (fun a a1 a2 => ?_) rfl setF_at (by omega) ?_ ?_ (Red_iup (I_rx hI) rb) (Red_iup (I_rv hI) (by omega))))
    · exact (putA_ne a2).trans (putA_ne a1)
    · show (setA (setA _ 105 P.2.2 (x % p)) 106 P.2.2 0).2.1 105 = _
      unfold setA
      rw [putA_ne (by decide), putA_at, I_105 h1]
    · show (setA (setA _ 105 P.2.2 (x % p)) 106 P.2.2 0).2.1 106 = _
      unfold setA
      rw [putA_at, putA_ne (by decide), I_106 h1]
set_option maxHeartbeats 4000000 in
theorem pr_leave (hI : INV2 p n sh S (F, P, V, T, H, c) (F, P, V, T, H, c)) : Pair g p vI mX9_leave mX10_leave 2 0 0 1 [] sh S n := by
  intro Q hk
  refine c_X9_leave (I_W hI) (I_L hI) ?_
  have h1 : INV2 p n sh (setF S 30 4 0) (F, (P.1, P.2.1, 0), V, T, H, c) (F, P, V, T, H, c) := I_plc hI (fun a a1 _ _ => Eqa_F a1) (fun _ => rfl) setF_at (by decide) (show S.2.1 31 = P.1 from I_31 hI) (show S.2.1 32 = P.2.1 from I_32 hI) (I_rx hI) (I_rv hI)
  generalize setF S 30 4 0 = S1 at h1 ⊢
  refine hk _ sh _ n (I_s96 hI) (fun Q2 h2 => ?_)
  refine c_X10_leave (I_M h1) (I_MP h1) ?_
  exact h2 _ (I_ok (z := (F, (P.1, P.2.1, 0), V, T, H, c)) (I_plm h1 (fun a k ha => setF_ne ha) (fun _ _ _ => rfl) rfl setF_at (by decide) (show S1.2.1 105 = P.1 from I_105 h1) (show S1.2.1 106 = P.2.1 from I_106 h1) (I_rx hI) (I_rv hI)))
set_option maxHeartbeats 4000000 in
theorem pr_see {i v : Int} (hI : INV2 p n sh S (F, P, V, T, H, c) (F, P, V, T, H, c)) (ri : IsI i) (rv : IsI v) : Pair g p vI mX9_see mX10_see 3 0 0 3 [.int (iI i), .int (iI v)] sh S n := by
  intro Q hk
  have hpb := (I_P hI).bd
  refine c_X9_see (I_W hI) (I_L hI) ⟨ri, rv⟩ (fun h0 => ?_) (fun hi => ?_)
  · refine hk (-2) sh S n (I_s96 hI) (fun Q2 h2 => ?_)
    exact c_X10_see (I_M hI) (I_MP hI) ri rv (fun _ => h2 S (I_ok hI)) (fun h1 => absurd h1 h0)
  · have rb := em_bd (z := v) (p := p) (by omega)
    have h1 : INV2 p n sh (setA S 32 i (v % p)) (F, (P.1, iup P.2.1 i (v % p), P.2.2), V, T, H, c) (F, P, V, T, H, c) := I_plc hI (fun a _ _ a3 => Eqa_sA a3) (fun _ => rfl) (I_L hI).2.2.2.2.2.2.2.2.2.1 (I_m hI) ((putA_ne (by decide)).trans (I_31 hI)) (by unfold setA; rw [putA_at, I_32 hI]) (I_rx hI) (Red_iup (I_rv hI) rb)
    rw [I_32 hI]
    generalize setA S 32 i (v % p) = S1 at h1 ⊢
    refine hk _ sh _ n (I_s96 hI) (fun Q2 h2 => ?_)
    refine c_X10_see (I_M h1) (I_MP h1) ri rv (fun h0 => absurd hi h0) (fun _ => ?_)
    rw [I_106 h1]
    exact h2 _ (I_ok (z := (F, (P.1, iup P.2.1 i (v % p), P.2.2), V, T, H, c)) (I_plm h1 (fun _ _ _ => rfl) (fun a _ a2 => putA_ne a2) rfl (I_MP h1).2.2.2.2.1 (I_m hI) ((putA_ne (by decide)).trans (I_105 h1)) (by unfold setA; rw [putA_at, I_106 h1]) (I_rx hI) (Red_iup (I_rv hI) rb)))
set_option maxHeartbeats 4000000 in
theorem pr_told {i w : Int} (hI : INV2 p n sh S (F, P, V, T, H, c) (F, P, V, T, H, c)) (ri : IsI i) (rw_ : IsI w) : Pair g p vI mX9_told mX10_told 3 0 0 3 [.int (iI i), .int (iI w)] sh S n := by
  intro Q hk
  refine c_X9_told (I_W hI) (I_L hI) ⟨ri, rw_⟩ (fun h0 => ?_) (fun hi hw => ?_) (fun hi hw => ?_)
  · refine hk (-2) sh S n (I_s96 hI) (fun Q2 h2 => ?_)
    exact c_X10_told (I_M hI) (I_MP hI) ri rw_ (fun _ => h2 S (I_ok hI)) (fun h1 h3 => absurd ⟨h1, by omega⟩ h0) (fun h1 h3 => absurd ⟨h1, by omega⟩ h0)
  · rw [I_31 hI]
    refine hk _ sh S n (I_s96 hI) (fun Q2 h2 => ?_)
    refine c_X10_told (I_M hI) (I_MP hI) ri rw_ (fun h0 => absurd ⟨hi, by omega⟩ h0) (fun _ _ => ?_) (fun _ h3 => by exfalso; omega)
    rw [I_105 hI]; exact h2 S (I_ok hI)
  · rw [I_32 hI]
    refine hk _ sh S n (I_s96 hI) (fun Q2 h2 => ?_)
    refine c_X10_told (I_M hI) (I_MP hI) ri rw_ (fun h0 => absurd ⟨hi, by omega⟩ h0) (fun _ h3 => by exfalso; omega) (fun _ _ => ?_)
    rw [I_106 hI]; exact h2 S (I_ok hI)
set_option maxHeartbeats 4000000 in
theorem pr_value {a i : Int} (hI : INV2 p n sh S (F, P, V, T, H, c) (F, P, V, T, H, c)) (ra : IsI a) (ri : IsI i) : Pair g p vI mX9_value mX10_value 3 0 0 3 [.int (iI a), .int (iI i)] sh S n := by
  intro Q hk
  refine c_X9_value (I_W hI) (I_L hI) ⟨ra, ri⟩ (fun h0 => ?_) (fun ha hi => ?_)
  · refine hk (-2) sh S n (I_s96 hI) (fun Q2 h2 => ?_)
    exact c_X10_value (I_M hI) (I_MP hI) ri ra (fun _ => h2 S (I_ok hI)) (fun h1 h3 => absurd ⟨h1, h3⟩ h0)
  · rw [I_pr hI ha, I_31 hI]
    refine hk _ sh S n (I_s96 hI) (fun Q2 h2 => ?_)
    refine c_X10_value (I_M hI) (I_MP hI) ri ra (fun h0 => absurd ⟨ha, hi⟩ h0) (fun _ _ => ?_)
    rw [I_mg hI ha, I_105 hI, ev_more (I_SR hI ha).1 (show ((32 : Nat) : Int) ≤ ((80 : Nat) : Int) by decide)]
    exact h2 S (I_ok hI)
set_option maxHeartbeats 4000000 in
theorem pr_look {a : Int} (hI : INV2 p n sh S (F, P, V, T, H, c) (F, P, V, T, H, c)) (ra : IsI a) : Pair g p vI mX9_look mX10_look 3 0 0 3 [.int (iI a)] sh S n := by
  intro Q hk
  have hpb := (I_P hI).bd
  refine c_X9_look (I_W hI) (I_L hI) ra (fun h0 => ?_) (fun ha => ?_)
  · refine hk (-2) sh S n (I_s96 hI) (fun Q2 h2 => ?_)
    exact c_X10_look (I_M hI) (I_MP hI) ra (fun _ => h2 S (I_ok hI)) (fun h1 => absurd h1 h0)
  · rw [I_pr hI ha, I_31 hI, I_32 hI]
    have rr : Red p (mix (fun i => ev (F a) (P.1 i) 32 % p) P.2.1 P.2.2) := mix_red (fun _ => em_bd (by omega)) (I_rv hI)
    have h1 : INV2 p n sh (putA S 32 (mix (fun i => ev (F a) (P.1 i) 32 % p) P.2.1 P.2.2)) (F, (P.1, mix (fun i => ev (F a) (P.1 i) 32 % p) P.2.1 P.2.2, P.2.2), V, T, H, c) (F, P, V, T, H, c) := I_plc hI (fun a _ _ a3 => Eqa_A a3) (fun _ => rfl) (I_L hI).2.2.2.2.2.2.2.2.2.1 (I_m hI) ((putA_ne (by decide)).trans (I_31 hI)) putA_at (I_rx hI) rr
    generalize putA S 32 (mix (fun i => ev (F a) (P.1 i) 32 % p) P.2.1 P.2.2) = S1 at h1 ⊢
    refine hk _ sh _ n (I_s96 hI) (fun Q2 h2 => ?_)
    refine c_X10_look (I_M h1) (I_MP h1) ra (fun h0 => absurd ha h0) (fun _ => ?_)
    have e : (fun i => ev (F a) (P.1 i) 80 % p) = fun i => ev (F a) (P.1 i) 32 % p := funext fun i => by rw [ev_more (I_SR hI ha).1 (show ((32 : Nat) : Int) ≤ ((80 : Nat) : Int) by decide)]
    rw [I_mg h1 ha, I_105 h1, I_106 h1, e]
    exact h2 _ (I_ok (z := (F, (P.1, mix (fun i => ev (F a) (P.1 i) 32 % p) P.2.1 P.2.2, P.2.2), V, T, H, c)) (I_plm h1 (fun _ _ _ => rfl) (fun a _ a2 => putA_ne a2) rfl (I_MP h1).2.2.2.2.1 (I_m hI) ((putA_ne (by decide)).trans (I_105 h1)) putA_at (I_rx hI) rr))
set_option maxHeartbeats 4000000 in
theorem pr_power {e : Int} (hI : INV2 p n sh S (F, P, V, T, H, c) (F, P, V, T, H, c)) (re : IsI e) : Pair g p vI mX9_power mX10_power 4 0 0 2 [.int (iI e)] sh S n := by
  intro Q hk
  refine c_X9_power (I_W hI) (I_L hI) re (fun h0 => ?_) (fun he => ?_)
  · refine hk (-2) sh S n (I_s96 hI) (fun Q2 h2 => ?_)
    exact c_X10_power (I_M hI) (I_MP hI) re (fun _ => h2 S (I_ok hI)) (fun h1 => absurd h1 h0)
  · rw [I_31 hI, I_32 hI]
    refine hk _ sh S n (I_s96 hI) (fun Q2 h2 => ?_)
    refine c_X10_power (I_M hI) (I_MP hI) re (fun h0 => absurd he h0) (fun _ => ?_)
    rw [I_105 hI, I_106 hI]
    exact h2 S (I_ok hI)
set_option maxHeartbeats 4000000 in
theorem pr_relation {j : Int} (hI : INV2 p n sh S (F, P, V, T, H, c) (F, P, V, T, H, c)) (rj : IsI j) : Pair g p vI mX9_relation mX10_relation 5 0 0 6 [.int (iI j)] sh S n := by
  intro Q hk
  have hP := I_P hI
  have hm := I_m hI
  obtain ⟨a, b, c0, hR⟩ := hI.1.2.1.2.2.2
  have hok := rl_ok (m := P.2.2) (vs := S.2.1 32) hP P.2.2.toNat (by omega)
  refine c_X9_relation (I_W hI) (I_L hI) hR rj ⟨hok.2.2.2.2.2.2.1, by have := hok.2.2.2.2.2.2.2.1; omega⟩ (fun S' b' c' v hS hL hR' hv => ?_)
  have h1 : INV2 p n sh S' (F, P, V, T, H, c) (F, P, V, T, H, c) := by
    obtain ⟨⟨h1, h2, h3, h4, h5, h6⟩, hM, hF, hn⟩ := hI
    have h : ∀ a : Nat, (a < 30 ∨ a = 31 ∨ a = 32 ∨ 43 ≤ a) → Eqa S S' a := fun a ha => Same_Eqa hS (by unfold RelD; omega)
    have e0 := h 0 (by omega)
    exact ⟨⟨CF_sm (fun _ _ => rfl) e0.2.2 (fun a ha => h a (by unfold RgF at ha; omega)) h1, ⟨hL, (h 31 (by omega)).2.1.trans h2.2.1, (h 32 (by omega)).2.1.trans h2.2.2.1, a, b', c', hR'⟩, CV_sm (fun _ _ _ => rfl) (e0.1 5) (h 4 (by omega)).2.2 (fun a a1 _ => h a (by omega)) h3, CT_sm (fun _ _ => rfl) (e0.1 10) (e0.1 11) (h 10 (by omega)).2.1 ((h 43 (by omega)).2.2 0) (fun a ha => h a (by omega)) h4, CH_sm (fun _ _ => rfl) (fun a a1 a2 => h a (by omega)) h5, (e0.1 6).trans h6⟩, IM_cl (fun _ _ => rfl) (fun a a1 a2 => h a (by omega)) hM, Fr_eq hF (fun a ha => h a (by omega)), hn⟩
  refine hk v sh S' n (I_s96 hI) (fun Q2 h2 => ?_)
  refine c_X10_relation (I_M h1) (I_MP h1) rj (fun S2 v2 hs hd hv2 => ?_)
  rw [I_106 h1, ← I_32 hI, ← hv] at hv2
  rw [hv2]
  exact h2 _ (I_ok (I_scr h1 hd hs))
end INVS
