/-! cost, times, counted, count, force, taken, plan, says, planned -/
theorem plo_congr {c s c' s' : Int → Int} : ∀ t : Nat, (∀ j : Int, 0 ≤ j → j < t → c j = c' j ∧ s j = s' j) → plo c s t = plo c' s' t
  | 0, _ => rfl
  | t + 1, h => by
    have ih := plo_congr (c := c) (s := s) (c' := c') (s' := s') t (fun j h0 h1 => h j h0 (by omega))
    obtain ⟨e1, e2⟩ := h (t : Int) (by omega) (by omega)
    show (if c (t : Int) < 0 then plo c s t else if (plo c s t).1 = -1 ∨ s (t : Int) < (plo c s t).2 then ((t : Int), s (t : Int)) else plo c s t) = (if c' (t : Int) < 0 then plo c' s' t else if (plo c' s' t).1 = -1 ∨ s' (t : Int) < (plo c' s' t).2 then ((t : Int), s' (t : Int)) else plo c' s' t)
    rw [ih, e1, e2]
theorem wenv_I {n m cut kd sm : Int} (hn : 0 ≤ n ∧ n ≤ 32) (hm : 0 ≤ m ∧ m ≤ 32) (hc : 1 ≤ cut ∧ cut ≤ 16) (hk : 0 ≤ kd ∧ kd ≤ 5) (hs : sm = 0 ∨ sm = 1) (i : Int) : IsI (wenv n m cut kd sm i) := by
  unfold wenv IsI
  by_cases c0 : i = 0
  · rw [if_pos c0]; omega
  · rw [if_neg c0]
    by_cases c1 : i = 1
    · rw [if_pos c1]; omega
    · rw [if_neg c1]
      by_cases c2 : i = 2
      · rw [if_pos c2]
        by_cases d : m < n
        · rw [if_pos d]; omega
        · rw [if_neg d]; omega
      · rw [if_neg c2]
        by_cases c3 : i = 3
        · rw [if_pos c3]; omega
        · rw [if_neg c3]
          by_cases c4 : i = 4
          · rw [if_pos c4]; omega
          · rw [if_neg c4]
            by_cases c5 : i = 5
            · rw [if_pos c5]; omega
            · rw [if_neg c5]; omega
section INVS
variable {g : GC} {p : Int} {n : Nat} {sh : SH} {S S' S1 : SS} {F : ZF} {P : ZP} {V : ZV} {T : ZT} {H : ZH} {c : Int} {z y : ZZ}
theorem I_w (hI : INV2 p n sh S (F, P, V, T, H, c) y) : 0 ≤ V.1 ∧ V.1 ≤ 8 := (I_V hI).2.1
theorem I_kc (hI : INV2 p n sh S (F, P, V, T, H, c) y) {i : Int} (hi : 0 ≤ i ∧ i < V.1) : (0 ≤ V.2.1 i ∧ V.2.1 i ≤ 5) ∧ (1 ≤ V.2.2 i ∧ V.2.2 i ≤ 16) := ((I_V hI).2.2 i hi.1 hi.2).2.2
theorem I_98 (hI : INV2 p n sh S z (F, P, V, T, H, c)) {i : Int} (hi : 0 ≤ i ∧ i < V.1) : S.2.1 98 i = V.2.1 i ∧ S.2.1 99 i = V.2.2 i := hI.2.1.2.2.1.2 i hi.1 hi.2
theorem I_cut (hC : INV2 p n sh S (F, P, V, T, H, c) y) (hI : INV2 p n sh S1 z (F, P, V, T, H, c)) : ∀ i : Int, 0 ≤ i → i < V.1 → 1 ≤ S1.2.1 99 i ∧ S1.2.1 99 i ≤ 16 := fun i i0 i1 => by
  rw [(I_98 hI ⟨i0, i1⟩).2]; exact (I_kc hC ⟨i0, i1⟩).2
theorem I_MT (hI : INV2 p n sh S z (F, P, V, T, H, c)) : MxW sh S T.2.2.1 T.2.2.2.1 := hI.2.1.2.2.2.1.1
theorem I_ptx (hI : INV2 p n sh S z (F, P, V, T, H, c)) {t : Int} (ht : 0 ≤ t ∧ t < T.2.2.1) : ptx (tkk (mtB S t)) = .inr (T.2.2.2.2 t) := hI.2.1.2.2.2.1.2.2.2 t ht.1 ht.2
theorem I_tc (hI : INV2 p n sh S (F, P, V, T, H, c) y) : (1 ≤ T.2.2.1 ∧ T.2.2.1 ≤ 6) ∧ (0 ≤ T.2.2.2.1 ∧ T.2.2.2.1 < T.2.2.1) := ⟨hI.1.2.2.2.1.2.2.2.2.1, hI.1.2.2.2.1.2.2.2.2.2.1⟩
theorem cs_eq {a b wy : Int} {X : ZX} (hC : INV2 p n sh S (F, P, V, T, H, c) y) (hM : INV2 p n sh S1 z (F, P, V, T, H, c)) (ha : 0 ≤ a ∧ a < 8) (hb : 0 ≤ b ∧ b < 8) (hw : 0 ≤ wy ∧ wy < V.1) : mcst S1 a b wy = ccst S V.2.1 V.2.2 a b wy ∧ msay S1 a b X wy = csay S V.2.1 V.2.2 a b X wy := by
  obtain ⟨e1, e2⟩ := I_98 hM hw
  unfold mcst ccst msay csay
  rw [e1, e2, I_mg hM ha, I_mg hM hb, I_pr hC ha, I_pr hC hb, I_len hC ha, I_len hC hb]
  exact ⟨rfl, rfl⟩
theorem plo_eq {a b : Int} {X : ZX} (hC : INV2 p n sh S (F, P, V, T, H, c) y) (hM : INV2 p n sh S1 z (F, P, V, T, H, c)) (ha : 0 ≤ a ∧ a < 8) (hb : 0 ≤ b ∧ b < 8) : plo (mcst S1 a b) (msay S1 a b X) V.1.toNat = plo (ccst S V.2.1 V.2.2 a b) (csay S V.2.1 V.2.2 a b X) V.1.toNat := plo_congr _ (fun j h0 h1 => cs_eq hC hM ha hb ⟨h0, by omega⟩)
theorem I_val {a b : Int} (hC : INV2 p n sh S (F, P, V, T, H, c) (F, P, V, T, H, c)) (ha : 0 ≤ a ∧ a < 8) (hb : 0 ≤ b ∧ b < 8) : ∀ wy : Int, 0 ≤ wy → wy < V.1 → Val (wenv (plen (pr S a) 32) (plen (pr S b) 32) (V.2.2 wy) (V.2.1 wy) (smf (pr S a) (pr S b))) (tprt (T.2.2.2.2 T.2.2.2.1) (wprt (V.2.1 wy))) (csay S V.2.1 V.2.2 a b (T.2.2.2.2 T.2.2.2.1) wy) := fun wy w0 w1 => by
  have hk := I_kc hC ⟨w0, w1⟩
  have hB := mtB_is (t := T.2.2.2.1) (I_MT hC)
  exact ptx_val (fun k => (tkk_rng hB k).2) (wenv_I (plen_bd _ 32) (plen_bd _ 32) hk.2 hk.1 smf_bd) (I_ptx hC (I_tc hC).2)
theorem I_TxW (hI : INV2 p n sh S (F, P, V, T, H, c) y) {t : Int} (ht : 0 ≤ t ∧ t < 6) : TxW sh S (ta t) := hI.1.2.2.2.1.2.2.2.2.2.2.1 t ht.1 ht.2
theorem I_TxP (hI : INV2 p n sh S (F, P, V, T, H, c) y) {t : Int} (ht : 0 ≤ t ∧ t < T.2.2.1) : TxP S (ta t) (T.2.2.2.2 t) := hI.1.2.2.2.1.2.2.2.2.2.2.2.1 t ht.1 ht.2
theorem I_nam (hI : INV2 p n sh S (F, P, V, T, H, c) y) : ∀ i : Int, ¬ (0 ≤ i ∧ i < 6) → S.2.1 10 i = 0 := hI.1.2.2.2.1.2.2.2.2.2.2.2.2.1
theorem I_tcE (hI : INV2 p n sh S (F, P, V, T, H, c) y) : S.1 0 10 = T.2.2.1 ∧ S.1 0 11 = T.2.2.2.1 := ⟨hI.1.2.2.2.1.2.2.1, hI.1.2.2.2.1.2.2.2.1⟩
theorem I_ru (hI : INV2 p n sh S (F, P, V, T, H, c) y) (hR : RuR (ta T.2.2.2.1) S S') (hT : TxW sh S' (ta T.2.2.2.1)) (hN : ∀ i : Int, ¬ (0 ≤ i ∧ i < 6) → S'.2.1 10 i = 0) : INV2 p n sh S' (F, P, V, T, H, c) y := by
  have htc := I_tc hI
  have hru := ta_bd (i := T.2.2.2.1) (by omega)
  obtain ⟨⟨h1, h2, h3, h4, h5, h6⟩, hM, hF, hn⟩ := hI
  have h : ∀ a : Nat, a ≠ 10 → a ≠ ta T.2.2.2.1 → a ≠ ta T.2.2.2.1 + 3 → Eqa S S' a := fun a a1 a2 a3 => ⟨fun k => hR.1 a k (Or.inl a2), hR.2.1 a a1 a3, fun j => by rw [hR.2.2]⟩
  have e0 := h 0 (by decide) (by omega) (by omega)
  refine ⟨⟨CF_sm (fun _ _ => rfl) e0.2.2 (fun a ha => h a (by unfold RgF at ha; omega) (by unfold RgF at ha; omega) (by unfold RgF at ha; omega)) h1, CP_sm (fun _ _ => rfl) (fun a a1 a2 => h a (by omega) (by omega) (by omega)) h2, CV_sm (fun _ _ _ => rfl) (e0.1 5) (h 4 (by decide) (by omega) (by omega)).2.2 (fun a a1 _ => h a (by omega) (by omega) (by omega)) h3, ?_, CH_sm (fun _ _ => rfl) (fun a a1 a2 => h a (by omega) (by omega) (by omega)) h5, (e0.1 6).trans h6⟩, IM_cl (fun _ _ => rfl) (fun a a1 a2 => h a (by omega) (by omega) (by omega)) hM, Fr_eq hF (fun a ha => h a (by omega) (by omega) (by omega)), hn⟩
  obtain ⟨t1, t2, t3, t4, t5, t6, t7, t8, t9, t10, t11⟩ := h4
  refine ⟨TaW_sm (fun _ _ => rfl) (fun a a1 a2 => h a (by omega) (by omega) (by omega)) t1, ?_, (e0.1 10).trans t3, (e0.1 11).trans t4, t5, t6, fun t u0 u1 => ?_, fun t u0 u1 => ?_, hN, t10, ((h 43 (by decide) (by omega) (by omega)).2.2 0).trans t11⟩
  · unfold ctB at t2 ⊢
    rw [(h 6 (by decide) (by omega) (by omega)).2.1]
    exact t2
  · by_cases e : t = T.2.2.2.1
    · rw [e]; exact hT
    · have hd : ta t + 4 ≤ ta T.2.2.2.1 ∨ ta T.2.2.2.1 + 4 ≤ ta t := by unfold ta; omega
      have hb := ta_bd ⟨u0, u1⟩
      exact TxW_sm (fun _ _ _ => rfl) (fun a a1 a2 => h a (by omega) (by omega) (by omega)) (t7 t u0 u1)
  · have hb := ta_bd (i := t) ⟨u0, by omega⟩
    have hd : t = T.2.2.2.1 ∨ ta t + 4 ≤ ta T.2.2.2.1 ∨ ta T.2.2.2.1 + 4 ≤ ta t := by unfold ta; omega
    exact TxP_sm (hR.1 _ 1 (by omega)) (hR.1 _ 3 (by omega)) (hR.2.1 _ (by omega) (by rcases hd with e | hd; (rw [e]; omega); omega)) (hR.2.1 _ (by omega) (by rcases hd with e | hd; (rw [e]; omega); omega)) (t8 t u0 u1)
/-- what is counted, in the class and in the Model -/
theorem I_cc {v : Int} (hI : INV2 p n sh S (F, P, V, T, H, c) y) : INV2 p n sh (setF S 0 6 v) (F, P, V, T, H, v) y := by
  obtain ⟨⟨h1, h2, h3, h4, h5, h6⟩, hM, hF, hn⟩ := hI
  have h : ∀ a : Nat, a ≠ 0 → Eqa S (setF S 0 6 v) a := fun a ha => Eqa_F ha
  exact ⟨⟨CF_sm (S := S) (fun _ _ => rfl) (fun _ => rfl) (fun a ha => h a (by unfold RgF at ha; omega)) h1, CP_sm (fun _ _ => rfl) (fun a a1 a2 => h a (by omega)) h2, CV_sm (S := S) (fun _ _ _ => rfl) (setF_ne (by decide)) (fun _ => rfl) (fun a a1 _ => h a (by omega)) h3, CT_sm (fun _ _ => rfl) (setF_ne (by decide)) (setF_ne (by decide)) rfl rfl (fun a ha => h a (by omega)) h4, CH_sm (fun _ _ => rfl) (fun a a1 a2 => h a (by omega)) h5, setF_at⟩, IM_cl (fun _ _ => rfl) (fun a a1 a2 => h a (by omega)) hM, Fr_eq hF (fun a ha => h a (by omega)), hn⟩
theorem I_cm {v : Int} (hI : INV2 p n sh S z (F, P, V, T, H, c)) : INV2 p n sh (setF S 96 6 v) z (F, P, V, T, H, v) := by
  refine I_md hI (fun a ha => Eqa_F (by omega)) ?_
  obtain ⟨h1, h2, h3, h4, h5, h6, h7, h8⟩ := hI.2.1
  have f := fun (k : Nat) (hk : k ≠ 6) => setF_ne (S := S) (a := 96) (k := 6) (v := v) (b := 96) (j := k) (Or.inr hk)
  exact ⟨MF_eq (fun _ _ => rfl) (f 1 (by decide)) (fun _ => rfl) rfl h1, MP_eq (fun _ _ => rfl) (f 29 (by decide)) (fun _ => rfl) rfl rfl h2, MV_eq (fun _ _ => rfl) (f 3 (by decide)) (fun _ => rfl) rfl rfl h3, MT_eq (fun _ _ => rfl) (f 11 (by decide)) (f 12 (by decide)) (f 14 (by decide)) (fun _ => rfl) rfl rfl rfl h4, MH_eq (fun _ _ => rfl) (fun _ => rfl) rfl rfl rfl rfl h5, setF_at, MlW_eq (fun _ _ => rfl) (fun _ => rfl) h7, MrW_eq (fun _ _ => rfl) (fun _ => rfl) (fun r => r) h8⟩
set_option maxHeartbeats 4000000 in
theorem pr_cost {a b wy : Int} (hI : INV2 p n sh S (F, P, V, T, H, c) (F, P, V, T, H, c)) (ra : IsI a) (rb : IsI b) (rw_ : IsI wy) : Pair g p vI mX9_cost mX10_cost 5 0 0 4 [.int (iI a), .int (iI b), .int (iI wy)] sh S n := by
  intro Q hk
  refine c_X9_cost (I_W hI) (I_V hI) ⟨ra, rb, rw_⟩ (fun h0 => ?_) (fun ha hb hw => ?_)
  · refine hk (-2) sh S n (I_s96 hI) (fun Q2 h2 => ?_)
    exact c_X10_cost (I_M hI) (I_MV hI) (I_Ml hI) ⟨ra, rb, rw_⟩ (I_s32 hI) (I_cut hI hI) (fun _ => h2 S (I_ok hI)) (fun h1 h3 h4 => absurd ⟨h1, h3, h4⟩ h0)
  · refine hk _ sh S n (I_s96 hI) (fun Q2 h2 => ?_)
    refine c_X10_cost (I_M hI) (I_MV hI) (I_Ml hI) ⟨ra, rb, rw_⟩ (I_s32 hI) (I_cut hI hI) (fun h0 => absurd ⟨ha, hb, hw⟩ h0) (fun _ _ _ S2 hs hd => ?_)
    have e := (cs_eq (X := T.2.2.2.2 0) hI hI ha hb hw).1
    unfold mcst ccst at e
    rw [e]
    exact h2 _ (I_ok (I_scr hI hd hs))
set_option maxHeartbeats 4000000 in
theorem pr_times {t a b wy : Int} (hI : INV2 p n sh S (F, P, V, T, H, c) (F, P, V, T, H, c)) (rt : IsI t) (ra : IsI a) (rb : IsI b) (rw_ : IsI wy) : Pair g p vI mX9_times mX10_times 6 0 0 4 [.int (iI t), .int (iI a), .int (iI b), .int (iI wy)] sh S n := by
  intro Q hk
  have hpb := (I_P hI).bd
  refine c_X9_times (I_W hI) (I_V hI) ⟨rt, ra, rb, rw_⟩ (fun h0 => ?_) (fun ht ha hb hw cc hc hfull => ?_) (fun ht ha hb hw cc hc hok S' hE => ?_)
  · refine hk (-2) sh S n (I_s96 hI) (fun Q2 h2 => ?_)
    exact c_X10_times (I_M hI) (I_MV hI) (I_Ml hI) ⟨rt, ra, rb, rw_⟩ (I_s32 hI) (I_cut hI hI) (fun _ => h2 S (I_ok hI)) (fun h1 h3 h4 h5 => absurd ⟨h1, h3, h4, h5⟩ h0) (fun h1 h3 h4 h5 => absurd ⟨h1, h3, h4, h5⟩ h0)
  · have hk2 := I_kc hI hw
    have ba := plen_bd (F a) 32
    have bb := plen_bd (F b) 32
    have e := (cs_eq (X := T.2.2.2.2 0) hI hI ha hb hw).1
    unfold mcst ccst at e
    rw [I_pr hI ha, I_pr hI hb] at hfull
    refine hk (-4) sh S n (I_s96 hI) (fun Q2 h2 => ?_)
    refine c_X10_times (I_M hI) (I_MV hI) (I_Ml hI) ⟨rt, ra, rb, rw_⟩ (I_s32 hI) (I_cut hI hI) (fun h0 => absurd ⟨ht, ha, hb, hw⟩ h0) (fun _ _ _ _ c2 hc2 _ S2 hs hd => h2 _ (I_ok (I_scr hI hd hs))) (fun _ _ _ _ c2 hc2 h3 h4 => ?_)
    rw [e, ← hc] at hc2
    rw [I_mg hI ha, I_mg hI hb, I_len hI ha, I_len hI hb] at h4
    exfalso
    omega
  · have hk2 := I_kc hI hw
    have ba := plen_bd (F a) 32
    have bb := plen_bd (F b) 32
    have cb := ctO_bd (n := plen (pr S a) 32) (m := plen (pr S b) 32) (sm := smf (pr S a) (pr S b)) hk2.1 hk2.2 (plen_bd _ 32) (plen_bd _ 32)
    rw [← hc] at cb
    rw [I_pr hI ha, I_pr hI hb] at hok hE
    have h1 := I_E hI hE
    have hX : Sup (pmul p (F a) (F b)) 32 := pmul_sup (la := plen (F a) 32) (lb := plen (F b) 32) (fun j hj => Sup_len (I_SR hI ha).1 hj) (fun j hj => Sup_len (I_SR hI hb).1 hj) (by omega)
    have hr : Red p (pmul p (F a) (F b)) := pmul_red (by omega)
    have c6 : S.1 0 6 = c := hI.1.2.2.2.2.2
    rw [c6]
    have h2' := I_cc (v := c + cc) h1
    generalize setF S' 0 6 (c + cc) = S1 at h2' ⊢
    have e := (cs_eq (X := T.2.2.2.2 0) hI h2' ha hb hw).1
    unfold mcst ccst at e
    refine hk cc sh S1 n (I_s96 hI) (fun Q2 h2 => ?_)
    refine c_X10_times (I_M h2') (I_MV h2') (I_Ml h2') ⟨rt, ra, rb, rw_⟩ (I_s32 h2') (I_cut hI h2') (fun h0 => absurd ⟨ht, ha, hb, hw⟩ h0) (fun _ _ _ _ c2 hc2 h3 => ?_) (fun _ _ _ _ c2 hc2 h3 h4 S2 hs hd => ?_)
    · rw [e, ← hc] at hc2
      rw [I_mg h2' ha, I_mg h2' hb, I_len hI ha, I_len hI hb] at h3
      exfalso
      omega
    · rw [e, ← hc] at hc2
      have c96 : S1.1 96 6 = c := h2'.2.1.2.2.2.2.2.1
      rw [I_mg h2' ha, I_mg h2' hb, c96, hc2]
      exact h2 _ (I_ok (I_cm (I_set (I_scr h2' hd hs) ht hX hr)))
set_option maxHeartbeats 4000000 in
theorem pr_counted (hI : INV2 p n sh S (F, P, V, T, H, c) (F, P, V, T, H, c)) : Pair g p vL mX9_counted mX10_counted 1 0 0 1 [] sh S n := by
  intro Q hk
  refine c_X9_counted (I_W hI) ?_
  refine hk _ sh S n (I_s96 hI) (fun Q2 h2 => ?_)
  refine c_X10_counted (I_s96 hI) ?_
  have e1 : S.1 0 6 = c := hI.1.2.2.2.2.2
  have e2 : S.1 96 6 = c := hI.2.1.2.2.2.2.2.1
  rw [e1] at h2
  rw [e2]
  exact h2 S (I_ok hI)
set_option maxHeartbeats 4000000 in
theorem pr_count {k : Int} (hI : INV2 p n sh S (F, P, V, T, H, c) (F, P, V, T, H, c)) (rk : IsI k) : Pair g p vI mX9_count mX10_count 2 0 0 1 [.int (iI k)] sh S n := by
  intro Q hk
  have hTa : TaW sh S T.1 := hI.1.2.2.2.1.1
  have m1 : S.1 96 1 = p := (I_M hI).2.2.1
  have m3 : S.1 96 3 = V.1 := (I_MV hI).2.2.2.2.2.1
  have m29 : S.1 96 29 = P.2.2 := (I_MP hI).2.2.2.2.1
  have m11 : S.1 96 11 = T.2.2.1 := (I_MT hI).2.2.2.2.2.1
  have m12 : S.1 96 12 = T.2.2.2.1 := (I_MT hI).2.2.2.2.2.2.1
  have m14 : S.1 96 14 = T.1 := hI.2.1.2.2.2.1.2.1.2.2.2.1
  have c5 : S.1 0 5 = V.1 := (I_V hI).1
  obtain ⟨c10, c11⟩ := I_tcE hI
  have fin : ∀ r : Int, (k = 0 → r = p) → (k = 1 → r = V.1) → (k = 2 → r = P.2.2) → (k = 3 → r = T.2.2.1) → (k = 4 → r = T.1) → (k = 5 → r = T.2.2.2.1) → (¬ (0 ≤ k ∧ k ≤ 5) → r = -2) → Q (some (.int (iI r))) (hp g sh S) n := fun r q0 q1 q2 q3 q4 q5 q6 => by
    refine hk r sh S n (I_s96 hI) (fun Q2 h2 => ?_)
    have h2 := h2 S (I_ok hI)
    exact c_X10_count (I_s96 hI) rk (fun e => by rw [m1, ← q0 e]; exact h2) (fun e => by rw [m3, ← q1 e]; exact h2) (fun e => by rw [m29, ← q2 e]; exact h2) (fun e => by rw [m11, ← q3 e]; exact h2) (fun e => by rw [m14, ← q4 e]; exact h2) (fun e => by rw [m12, ← q5 e]; exact h2) (fun e => by
      have := q6 e
      rw [this] at h2
      exact h2)
  refine c_X9_count (I_W hI) (I_L hI) hTa rk (fun e => ?_) (fun e => ?_) (fun e => ?_) (fun e => ?_) (fun e => ?_) (fun e => ?_) (fun e => ?_)
  · exact fin p (fun _ => rfl) (fun z => by omega) (fun z => by omega) (fun z => by omega) (fun z => by omega) (fun z => by omega) (fun z => by omega)
  · rw [c5]; exact fin V.1 (fun z => by omega) (fun _ => rfl) (fun z => by omega) (fun z => by omega) (fun z => by omega) (fun z => by omega) (fun z => by omega)
  · exact fin P.2.2 (fun z => by omega) (fun z => by omega) (fun _ => rfl) (fun z => by omega) (fun z => by omega) (fun z => by omega) (fun z => by omega)
  · rw [c10]; exact fin T.2.2.1 (fun z => by omega) (fun z => by omega) (fun z => by omega) (fun _ => rfl) (fun z => by omega) (fun z => by omega) (fun z => by omega)
  · exact fin T.1 (fun z => by omega) (fun z => by omega) (fun z => by omega) (fun z => by omega) (fun _ => rfl) (fun z => by omega) (fun z => by omega)
  · rw [c11]; exact fin T.2.2.2.1 (fun z => by omega) (fun z => by omega) (fun z => by omega) (fun z => by omega) (fun z => by omega) (fun _ => rfl) (fun z => by omega)
  · exact fin (-2) (fun z => by omega) (fun z => by omega) (fun z => by omega) (fun z => by omega) (fun z => by omega) (fun z => by omega) (fun _ => rfl)
set_option maxHeartbeats 4000000 in
theorem pr_taken {wy k : Int} (hI : INV2 p n sh S (F, P, V, T, H, c) (F, P, V, T, H, c)) (rw_ : IsI wy) (rk : IsI k) : Pair g p vI mX9_taken mX10_taken 3 0 0 3 [.int (iI wy), .int (iI k)] sh S n := by
  intro Q hk
  refine c_X9_taken (I_W hI) (I_V hI) ⟨rw_, rk⟩ (fun h0 => ?_) (fun h1 hw => ?_) (fun h1 hw hu => ?_) (fun h1 hw hu => ?_)
  · refine hk (-2) sh S n (I_s96 hI) (fun Q2 h2 => ?_)
    exact c_X10_taken (I_MV hI) ⟨rw_, rk⟩ (fun _ => h2 S (I_ok hI)) (fun h1 => absurd h1 h0) (fun h1 => absurd h1 h0) (fun h1 => absurd h1 h0)
  · refine hk (-11) sh S n (I_s96 hI) (fun Q2 h2 => ?_)
    exact c_X10_taken (I_MV hI) ⟨rw_, rk⟩ (fun h0 => absurd h1 h0) (fun _ _ => h2 S (I_ok hI)) (fun _ h3 => absurd h3 hw) (fun _ h3 => absurd h3 hw)
  · obtain ⟨e1, e2⟩ := I_98 hI hw
    refine hk _ sh S n (I_s96 hI) (fun Q2 h2 => ?_)
    refine c_X10_taken (I_MV hI) ⟨rw_, rk⟩ (fun h0 => absurd h1 h0) (fun _ h3 => absurd hw h3) (fun _ _ _ => ?_) (fun _ _ h3 => absurd (by rw [e1]; exact hu) h3)
    rw [e2]; exact h2 S (I_ok hI)
  · obtain ⟨e1, e2⟩ := I_98 hI hw
    refine hk (-13) sh S n (I_s96 hI) (fun Q2 h2 => ?_)
    exact c_X10_taken (I_MV hI) ⟨rw_, rk⟩ (fun h0 => absurd h1 h0) (fun _ h3 => absurd hw h3) (fun _ _ h3 => absurd (by rw [← e1]; exact h3) hu) (fun _ _ _ => h2 S (I_ok hI))
set_option maxHeartbeats 4000000 in
theorem pr_plan {a b : Int} (hI : INV2 p n sh S (F, P, V, T, H, c) (F, P, V, T, H, c)) (ra : IsI a) (rb : IsI b) : Pair g p vI mX9_plan mX10_plan 6 0 0 49 [.int (iI a), .int (iI b)] sh S n := by
  intro Q hk
  have htc := I_tc hI
  refine c_X9_plan (X := T.2.2.2.2 T.2.2.2.1) (I_W hI) (I_V hI) ⟨ra, rb⟩ (I_TxW hI (by omega)) (I_TxP hI htc.2) (I_tcE hI).2 (by omega) (I_nam hI) (fun ha hb => I_val hI ha hb) (fun h0 => ?_) (fun ha hb S' hR hT hN => ?_)
  · refine hk (-2) sh S n (I_s96 hI) (fun Q2 h2 => ?_)
    exact c_X10_plan (I_M hI) (I_MV hI) (I_MT hI) (I_Ml hI) ⟨ra, rb⟩ (I_s32 hI) (I_cut hI hI) (I_ptx hI htc.2) (fun _ => h2 S (I_ok hI)) (fun h1 h3 => absurd ⟨h1, h3⟩ h0)
  · have h1 := I_ru hI hR hT hN
    refine hk _ sh S' n (I_s96 hI) (fun Q2 h2 => ?_)
    refine c_X10_plan (I_M h1) (I_MV h1) (I_MT h1) (I_Ml h1) ⟨ra, rb⟩ (I_s32 h1) (I_cut hI h1) (I_ptx h1 htc.2) (fun h0 => absurd ⟨ha, hb⟩ h0) (fun _ _ S2 hs hd => ?_)
    rw [plo_eq hI h1 ha hb]
    exact h2 _ (I_ok (I_scr h1 hd hs))
theorem GrR_MdW (h : GrR S S') (hW : MdW p sh S) : MdW p sh S' := by
  obtain ⟨a1, a2, a3, a4, a5, a6⟩ := hW
  exact ⟨a1, a2, (h.2 96 1 (by omega)).trans a3, by rw [h.1]; exact a4, a5, by rw [h.1]; exact a6⟩
set_option maxHeartbeats 4000000 in
theorem pr_says {wy a b : Int} (hI : INV2 p n sh S (F, P, V, T, H, c) (F, P, V, T, H, c)) (rw_ : IsI wy) (ra : IsI a) (rb : IsI b) : Pair g p vL mX9_says mX10_says 5 0 0 48 [.int (iI wy), .int (iI a), .int (iI b)] sh S n := by
  intro Q hk
  have htc := I_tc hI
  refine c_X9_says (X := T.2.2.2.2 T.2.2.2.1) (I_W hI) (I_V hI) ⟨rw_, ra, rb⟩ (I_TxW hI (by omega)) (I_TxP hI htc.2) (I_tcE hI).2 (by omega) (I_nam hI) (fun ha hb => I_val hI ha hb) (fun h0 => ?_) (fun hw ha hb S' hR hT hN => ?_)
  · refine hk (-4611686018427387904) sh S n (I_s96 hI) (fun Q2 h2 => ?_)
    exact c_X10_says (I_M hI) (I_MV hI) (I_MT hI) ⟨ra, rb, rw_⟩ (I_s32 hI) (I_ptx hI htc.2) (fun _ => h2 S (I_ok hI)) (fun h1 h3 h4 => absurd ⟨h1, h3, h4⟩ h0)
  · have h1 := I_ru hI hR hT hN
    refine hk _ sh S' n (I_s96 hI) (fun Q2 h2 => ?_)
    refine c_X10_says (I_M h1) (I_MV h1) (I_MT h1) ⟨ra, rb, rw_⟩ (I_s32 h1) (I_ptx h1 htc.2) (fun h0 => absurd ⟨hw, ha, hb⟩ h0) (fun _ _ _ S2 hg => ?_)
    rw [(cs_eq hI h1 ha hb hw).2]
    exact h2 _ (I_ok (I_scr h1 (GrR_MdW hg (I_M h1)) (GrR_scr hg)))
set_option maxHeartbeats 4000000 in
theorem pr_planned {t a b : Int} (hI : INV2 p n sh S (F, P, V, T, H, c) (F, P, V, T, H, c)) (rt : IsI t) (ra : IsI a) (rb : IsI b) : Pair g p vI mX9_planned mX10_planned 6 0 0 49 [.int (iI t), .int (iI a), .int (iI b)] sh S n := by
  intro Q hk
  have hpb := (I_P hI).bd
  have htc := I_tc hI
  refine c_X9_planned (X := T.2.2.2.2 T.2.2.2.1) (I_W hI) (I_V hI) ⟨rt, ra, rb⟩ (I_TxW hI (by omega)) (I_TxP hI htc.2) (I_tcE hI).2 (by omega) (I_nam hI) (fun ha hb => I_val hI ha hb) rfl (fun h0 => ?_) (fun ht ha hb hbs S' hR hT hN => ?_) (fun ht ha hb hbs hbig S' hR hT hN => ?_) (fun ht ha hb hbs hbig S' hR hT hN S2 hE => ?_)
  · refine hk (-2) sh S n (I_s96 hI) (fun Q2 h2 => ?_)
    exact c_X10_planned (I_M hI) (I_MV hI) (I_MT hI) (I_Ml hI) ⟨rt, ra, rb⟩ (I_s32 hI) (I_cut hI hI) (I_ptx hI htc.2) rfl (fun _ => h2 S (I_ok hI)) (fun h1 h3 h4 => absurd ⟨h1, h3, h4⟩ h0) (fun h1 h3 h4 => absurd ⟨h1, h3, h4⟩ h0) (fun h1 h3 h4 => absurd ⟨h1, h3, h4⟩ h0)
  · have h1 := I_ru hI hR hT hN
    refine hk (-3) sh S' n (I_s96 hI) (fun Q2 h2 => ?_)
    exact c_X10_planned (I_M h1) (I_MV h1) (I_MT h1) (I_Ml h1) ⟨rt, ra, rb⟩ (I_s32 h1) (I_cut hI h1) (I_ptx h1 htc.2) (show _ = _ by rw [plo_eq hI h1 ha hb]) (fun h0 => absurd ⟨ht, ha, hb⟩ h0) (fun _ _ _ _ S3 hs hd => h2 _ (I_ok (I_scr h1 hd hs))) (fun _ _ _ h4 => by exfalso; omega) (fun _ _ _ h4 => by exfalso; omega)
  · have h1 := I_ru hI hR hT hN
    have ba := plen_bd (F a) 32
    have bb := plen_bd (F b) 32
    rw [I_pr hI ha, I_pr hI hb] at hbig
    refine hk (-4) sh S' n (I_s96 hI) (fun Q2 h2 => ?_)
    refine c_X10_planned (I_M h1) (I_MV h1) (I_MT h1) (I_Ml h1) ⟨rt, ra, rb⟩ (I_s32 h1) (I_cut hI h1) (I_ptx h1 htc.2) (show _ = _ by rw [plo_eq hI h1 ha hb]) (fun h0 => absurd ⟨ht, ha, hb⟩ h0) (fun _ _ _ h4 => by exfalso; omega) (fun _ _ _ _ _ S3 hs hd => h2 _ (I_ok (I_scr h1 hd hs))) (fun _ _ _ _ h4 => absurd ?_ h4)
    rw [I_mg h1 ha, I_mg h1 hb, I_len hI ha, I_len hI hb]
    omega
  · have h1 := I_ru hI hR hT hN
    have ba := plen_bd (F a) 32
    have bb := plen_bd (F b) 32
    rw [I_pr hI ha, I_pr hI hb] at hbig hE
    have h3 := I_E h1 hE
    have hX : Sup (pmul p (F a) (F b)) 32 := pmul_sup (la := plen (F a) 32) (lb := plen (F b) 32) (fun j hj => Sup_len (I_SR hI ha).1 hj) (fun j hj => Sup_len (I_SR hI hb).1 hj) (by omega)
    have hr : Red p (pmul p (F a) (F b)) := pmul_red (by omega)
    have c6 : S'.1 0 6 = c := h1.1.2.2.2.2.2
    rw [c6]
    have h4 := I_cc (v := c + ccst S V.2.1 V.2.2 a b (plo (ccst S V.2.1 V.2.2 a b) (csay S V.2.1 V.2.2 a b (T.2.2.2.2 T.2.2.2.1)) V.1.toNat).1) h3
    have e := (cs_eq (X := T.2.2.2.2 0) hI (I_cc (v := c + ccst S V.2.1 V.2.2 a b (plo (ccst S V.2.1 V.2.2 a b) (csay S V.2.1 V.2.2 a b (T.2.2.2.2 T.2.2.2.1)) V.1.toNat).1) h3) ha hb hbs).1
    generalize setF S2 0 6 (c + ccst S V.2.1 V.2.2 a b (plo (ccst S V.2.1 V.2.2 a b) (csay S V.2.1 V.2.2 a b (T.2.2.2.2 T.2.2.2.1)) V.1.toNat).1) = S1 at h4 e ⊢
    refine hk _ sh S1 n (I_s96 hI) (fun Q2 h2 => ?_)
    refine c_X10_planned (I_M h4) (I_MV h4) (I_MT h4) (I_Ml h4) ⟨rt, ra, rb⟩ (I_s32 h4) (I_cut hI h4) (I_ptx h4 htc.2) (show _ = _ by rw [plo_eq hI h4 ha hb]) (fun h0 => absurd ⟨ht, ha, hb⟩ h0) (fun _ _ _ h5 => by exfalso; omega) (fun _ _ _ _ h5 => ?_) (fun _ _ _ _ _ S3 hs hd => ?_)
    · rw [I_mg h4 ha, I_mg h4 hb, I_len hI ha, I_len hI hb] at h5
      exfalso
      omega
    · have c96 : S1.1 96 6 = c := h4.2.1.2.2.2.2.2.1
      rw [I_mg h4 ha, I_mg h4 hb, c96, e]
      exact h2 _ (I_ok (I_cm (I_set (I_scr h4 hd hs) ht hX hr)))
end INVS
