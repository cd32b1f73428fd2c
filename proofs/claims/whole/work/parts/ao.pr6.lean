/-! force, feed, text -/
theorem bt_ext {N : Int} {f h : Int → Int} (e : ∀ i : Int, 0 ≤ i → i < N → f i = h i) : bt N f = bt N h := funext fun i => by
  unfold bt
  by_cases c : 0 ≤ i ∧ i < N
  · rw [if_pos c, if_pos c, e i c.1 c.2]
  · rw [if_neg c, if_neg c]
theorem bt_at {N i : Int} {f h : Int → Int} (e : bt N f = bt N h) (hi : 0 ≤ i ∧ i < N) : f i = h i := by
  have h1 := congrFun e i
  unfold bt at h1
  rwa [if_pos hi, if_pos hi] at h1
section INVS
variable {g : GC} {p : Int} {n : Nat} {sh : SH} {S S' S1 : SS} {F : ZF} {P : ZP} {V : ZV} {T : ZT} {H : ZH} {c : Int} {z y : ZZ}
theorem I_TaW (hI : INV2 p n sh S (F, P, V, T, H, c) y) : TaW sh S T.1 := hI.1.2.2.2.1.1
theorem I_B (hI : INV2 p n sh S (F, P, V, T, H, c) y) : ctB S T.1 = T.2.1 := hI.1.2.2.2.1.2.1
theorem I_MB (hI : INV2 p n sh S z (F, P, V, T, H, c)) : bt T.1 (S.2.1 104) = T.2.1 := hI.2.1.2.2.2.1.2.2.1
theorem I_Mq (hI : INV2 p n sh S z (F, P, V, T, H, c)) : MqW sh S T.1 := hI.2.1.2.2.2.1.2.1
/-- the class's texts and tape changed -/
theorem I_tx {T2 : ZT} (hI : INV2 p n sh S (F, P, V, T, H, c) y) (h0 : ∀ k : Nat, k ≠ 10 → k ≠ 11 → S'.1 0 k = S.1 0 k) (hP : ∀ (a : Nat) (j : Int), a ≠ 43 → S'.2.2 a j = S.2.2 a j) (h : ∀ a : Nat, (1 ≤ a ∧ a ≤ 4) ∨ a = 9 ∨ (11 ≤ a ∧ a ≤ 42) ∨ (48 ≤ a ∧ a ≤ 71) ∨ 96 ≤ a → Eqa S S' a) (hT : CT sh S' T2) : INV2 p n sh S' (F, P, V, T2, H, c) y := by
  obtain ⟨⟨h1, h2, h3, h4, h5, h6⟩, hM, hF, hn⟩ := hI
  exact ⟨⟨CF_sm (fun _ _ => rfl) (fun j => hP 0 j (by decide)) (fun a ha => h a (by unfold RgF at ha; omega)) h1, CP_sm (fun _ _ => rfl) (fun a a1 a2 => h a (by omega)) h2, CV_sm (fun _ _ _ => rfl) (h0 5 (by decide) (by decide)) (fun j => hP 4 j (by decide)) (fun a a1 _ => h a (by omega)) h3, hT, CH_sm (fun _ _ => rfl) (fun a a1 a2 => h a (by omega)) h5, (h0 6 (by decide) (by decide)).trans h6⟩, IM_cl (fun _ _ => rfl) (fun a a1 a2 => h a (by omega)) hM, Fr_eq hF (fun a ha => h a (by omega)), hn⟩
/-- the Model's -/
theorem I_mt {T2 : ZT} (hI : INV2 p n sh S z (F, P, V, T, H, c)) (hF : ∀ a k : Nat, (a ≠ 96 ∨ (k ≠ 11 ∧ k ≠ 12 ∧ k ≠ 14)) → S'.1 a k = S.1 a k) (hA : ∀ a : Nat, a ≠ 102 → a ≠ 103 → a ≠ 104 → S'.2.1 a = S.2.1 a) (hq : S'.2.2 = S.2.2) (hT : MT sh S' T2) : INV2 p n sh S' z (F, P, V, T2, H, c) := by
  have hP : ∀ j : Int, S'.2.2 96 j = S.2.2 96 j := fun j => by rw [hq]
  refine I_md hI (fun a ha => ⟨fun k => hF a k (Or.inl (by omega)), hA a (by omega) (by omega) (by omega), fun j => by rw [hq]⟩) ?_
  obtain ⟨h1, h2, h3, h4, h5, h6, h7, h8⟩ := hI.2.1
  have f := fun (k : Nat) (hk : k ≠ 11 ∧ k ≠ 12 ∧ k ≠ 14) => hF 96 k (Or.inr hk)
  have A := fun (a : Nat) (a1 : a ≠ 102 ∧ a ≠ 103 ∧ a ≠ 104) => hA a a1.1 a1.2.1 a1.2.2
  exact ⟨MF_eq (fun _ _ => rfl) (f 1 (by decide)) hP (A 97 (by decide)) h1, MP_eq (fun _ _ => rfl) (f 29 (by decide)) hP (A 105 (by decide)) (A 106 (by decide)) h2, MV_eq (fun _ _ => rfl) (f 3 (by decide)) hP (A 98 (by decide)) (A 99 (by decide)) h3, hT, MH_eq (fun _ _ => rfl) hP (A 109 (by decide)) (A 110 (by decide)) (A 111 (by decide)) (A 112 (by decide)) h5, (f 6 (by decide)).trans h6, MlW_eq (fun _ _ => rfl) hP h7, MrW_eq (fun _ _ => rfl) hP (fun r => by rw [A 107 (by decide)]; exact r) h8⟩
set_option maxHeartbeats 4000000 in
theorem pr_force {t : Int} (hI : INV2 p n sh S (F, P, V, T, H, c) (F, P, V, T, H, c)) (rt : IsI t) : Pair g p vI mX9_force mX10_force 2 0 0 2 [.int (iI t)] sh S n := by
  intro Q hk
  have htc := I_tc hI
  obtain ⟨c10, c11⟩ := I_tcE hI
  refine c_X9_force (tc := T.2.2.1) (ru := T.2.2.2.1) (I_W hI) c10 c11 (by omega) rt (fun h0 => ?_) (fun h1 => ?_)
  · refine hk (-2) sh S n (I_s96 hI) (fun Q2 h2 => ?_)
    exact c_X10_force (I_MT hI) rt (fun _ => h2 S (I_ok hI)) (fun h3 => absurd h3 h0)
  · have hs : INV2 p n sh (setF S 0 11 t) (F, P, V, (T.1, T.2.1, T.2.2.1, t, T.2.2.2.2), H, c) (F, P, V, T, H, c) := by
      refine I_tx hI (fun k _ k2 => setF_ne (Or.inr k2)) (fun _ _ _ => rfl) (fun a ha => Eqa_F (by omega)) ?_
      obtain ⟨t1, t2, t3, t4, t5, t6, t7, t8, t9, t10, t11⟩ := hI.1.2.2.2.1
      have h : ∀ a : Nat, a ≠ 0 → Eqa S (setF S 0 11 t) a := fun a ha => Eqa_F ha
      exact ⟨TaW_sm (fun _ _ => rfl) (fun a a1 a2 => h a (by omega)) t1, t2, (setF_ne (by decide)).trans t3, setF_at, t5, h1, fun q q0 q1 => TxW_sm (fun _ _ _ => rfl) (fun a a1 a2 => h a (by have := ta_bd ⟨q0, q1⟩; omega)) (t7 q q0 q1), fun q q0 q1 => TxP_sm (setF_ne (Or.inl (by have q2 : q < T.2.2.1 := q1; have := ta_bd (i := q) ⟨q0, by omega⟩; omega))) (setF_ne (Or.inl (by have q2 : q < T.2.2.1 := q1; have := ta_bd (i := q) ⟨q0, by omega⟩; omega))) rfl rfl (t8 q q0 q1), t9, t10, t11⟩
    generalize setF S 0 11 t = S1 at hs ⊢
    refine hk _ sh S1 n (I_s96 hI) (fun Q2 h2 => ?_)
    refine c_X10_force (I_MT hs) rt (fun h0 => absurd h1 h0) (fun _ => ?_)
    refine h2 _ (I_ok (z := (F, P, V, (T.1, T.2.1, T.2.2.1, t, T.2.2.2.2), H, c)) (I_mt hs (fun a k ha => setF_ne (by omega)) (fun _ _ _ _ => rfl) rfl ?_))
    obtain ⟨⟨a1, a2, a3, a4, a5, a6, a7, a8, a9, a10, a11⟩, ⟨b1, b2, b3, b4, b5, b6⟩, e1, e2⟩ := hs.2.1.2.2.2.1
    exact ⟨⟨a1, a2, a3, a4, a5, (setF_ne (by decide)).trans a6, setF_at, a8, h1, a10, a11⟩, ⟨b1, b2, b3, (setF_ne (by decide)).trans b4, b5, b6⟩, e1, e2⟩
set_option maxHeartbeats 4000000 in
theorem pr_feed {m zz : Int} (hI : INV2 p n sh S (F, P, V, T, H, c) (F, P, V, T, H, c)) (rm : IsI m) (rz : -9223372036854775808 ≤ zz ∧ zz ≤ 9223372036854775807) : Pair g p vI mX9_feed mX10_feed 3 0 0 2 [.int (iI m), .long (iL zz)] sh S n := by
  intro Q hk
  have htc := I_tc hI
  have hTa := I_TaW hI
  have hN : 0 ≤ T.1 ∧ T.1 ≤ 160 := hTa.2.2.2.2.2.2.2.2.1
  refine c_X9_feed (I_W hI) hTa rm rz (fun h0 => ?_) (fun h1 hbig => ?_) (fun h1 hfit => ?_)
  · refine hk (-2) sh S n (I_s96 hI) (fun Q2 h2 => ?_)
    exact c_X10_feed (I_Mq hI) rm rz (fun _ => h2 S (I_ok hI)) (fun h3 => absurd h3 h0) (fun h3 => absurd h3 h0)
  · refine hk (-4) sh S n (I_s96 hI) (fun Q2 h2 => ?_)
    exact c_X10_feed (I_Mq hI) rm rz (fun h0 => absurd h1 h0) (fun _ _ => h2 S (I_ok hI)) (fun _ h3 => by exfalso; omega)
  · have hs : INV2 p n sh (setF (putA S 6 (seg T.1 (T.1 + m) (tcd T.1 zz) (S.2.1 6))) 5 1 (T.1 + m)) (F, P, V, (T.1 + m, bt (T.1 + m) (fun i => seg T.1 (T.1 + m) (tcd T.1 zz) (S.2.1 6) i % 256), T.2.2), H, c) (F, P, V, T, H, c) := by
      have h : ∀ a : Nat, a ≠ 5 → a ≠ 6 → Eqa S (setF (putA S 6 (seg T.1 (T.1 + m) (tcd T.1 zz) (S.2.1 6))) 5 1 (T.1 + m)) a := fun a a1 a2 => Eqa_tr (Eqa_A a2) (Eqa_F a1)
      refine I_tx hI (fun k _ _ => setF_ne (Or.inl (by decide))) (fun _ _ _ => rfl) (fun a ha => h a (by omega) (by omega)) ?_
      obtain ⟨t1, t2, t3, t4, t5, t6, t7, t8, t9, t10, t11⟩ := hI.1.2.2.2.1
      refine ⟨TaW_add t1 (by omega) (fun j => b8_bd), ?_, (setF_ne (by decide)).trans t3, (setF_ne (by decide)).trans t4, t5, t6, fun q q0 q1 => TxW_sm (fun _ _ _ => rfl) (fun a a1 a2 => h a (by have := ta_bd ⟨q0, q1⟩; omega) (by have := ta_bd ⟨q0, q1⟩; omega)) (t7 q q0 q1), fun q q0 q1 => ?_, t9, t10, t11⟩
      · unfold ctB
        show bt (T.1 + m) (fun i => (putA S 6 (seg T.1 (T.1 + m) (tcd T.1 zz) (S.2.1 6))).2.1 6 i % 256) = _
        rw [putA_at]
      · have q2 : q < T.2.2.1 := q1
        have hb := ta_bd (i := q) ⟨q0, by omega⟩
        have e0 := h (ta q) (by omega) (by omega)
        exact TxP_sm (e0.1 1) (e0.1 3) (h (ta q + 1) (by omega) (by omega)).2.1 (h (ta q + 2) (by omega) (by omega)).2.1 (t8 q q0 q1)
    have hB1 := I_B hI
    have e6 : S.2.1 6 = S.2.1 6 := rfl
    generalize setF (putA S 6 (seg T.1 (T.1 + m) (tcd T.1 zz) (S.2.1 6))) 5 1 (T.1 + m) = S1 at hs ⊢
    refine hk _ sh S1 n (I_s96 hI) (fun Q2 h2 => ?_)
    refine c_X10_feed (I_Mq hs) rm rz (fun h0 => absurd h1 h0) (fun _ h3 => by exfalso; omega) (fun _ _ => ?_)
    refine h2 _ (I_ok (z := (F, P, V, (T.1 + m, bt (T.1 + m) (fun i => seg T.1 (T.1 + m) (tcd T.1 zz) (S.2.1 6) i % 256), T.2.2), H, c)) (I_mt hs (fun a k ha => setF_ne (by omega)) (fun a _ _ a4 => putA_ne a4) rfl ?_))
    have hB2 := I_MB hs
    obtain ⟨⟨a1, a2, a3, a4, a5, a6, a7, a8, a9, a10, a11⟩, ⟨b1, b2, b3, b4, b5, b6⟩, e1, e2⟩ := hs.2.1.2.2.2.1
    have p102 : (putA S1 104 (seg T.1 (T.1 + m) (tfd T.1 zz) (S1.2.1 104))).2.1 102 = S1.2.1 102 := putA_ne (by decide)
    have p103 : (putA S1 104 (seg T.1 (T.1 + m) (tfd T.1 zz) (S1.2.1 104))).2.1 103 = S1.2.1 103 := putA_ne (by decide)
    have p104 : (putA S1 104 (seg T.1 (T.1 + m) (tfd T.1 zz) (S1.2.1 104))).2.1 104 = seg T.1 (T.1 + m) (tfd T.1 zz) (S1.2.1 104) := putA_at
    have r104 : ∀ i : Int, 0 ≤ seg T.1 (T.1 + m) (tfd T.1 zz) (S1.2.1 104) i ∧ seg T.1 (T.1 + m) (tfd T.1 zz) (S1.2.1 104) i ≤ 255 := fun i => by
      by_cases q : T.1 ≤ i ∧ i < T.1 + m
      · rw [seg_in q]
        unfold tfd fbt
        omega
      · rw [seg_out q]; exact b6 i
    have r4 : (setF (putA S1 104 (seg T.1 (T.1 + m) (tfd T.1 zz) (S1.2.1 104))) 96 14 (T.1 + m)).1 96 14 = T.1 + m := setF_at
    refine ⟨⟨a1, a2, a3, a4, a5, (setF_ne (by decide)).trans a6, (setF_ne (by decide)).trans a7, a8, a9, ?_, ?_⟩, ⟨b1, b2, b3, r4, by show 0 ≤ T.1 + m ∧ T.1 + m ≤ 160; omega, ?_⟩, ?_, fun t t0 t1 => ?_⟩
    · show ∀ i : Int, 0 ≤ (putA S1 104 (seg T.1 (T.1 + m) (tfd T.1 zz) (S1.2.1 104))).2.1 102 i ∧ _ ≤ 255
      rw [p102]; exact a10
    · show ∀ i : Int, 0 ≤ (putA S1 104 (seg T.1 (T.1 + m) (tfd T.1 zz) (S1.2.1 104))).2.1 103 i ∧ _ ≤ 160
      rw [p103]; exact a11
    · show ∀ i : Int, 0 ≤ (putA S1 104 (seg T.1 (T.1 + m) (tfd T.1 zz) (S1.2.1 104))).2.1 104 i ∧ _ ≤ 255
      rw [p104]; exact r104
    · show bt (T.1 + m) ((putA S1 104 (seg T.1 (T.1 + m) (tfd T.1 zz) (S1.2.1 104))).2.1 104) = bt (T.1 + m) (fun i => seg T.1 (T.1 + m) (tcd T.1 zz) (S.2.1 6) i % 256)
      rw [p104]
      refine bt_ext (fun i i0 i1 => ?_)
      show seg T.1 (T.1 + m) (tfd T.1 zz) (S1.2.1 104) i = seg T.1 (T.1 + m) (tcd T.1 zz) (S.2.1 6) i % 256
      by_cases q : T.1 ≤ i ∧ i < T.1 + m
      · rw [seg_in q, seg_in q]
        unfold tfd fbt tcd b8
        omega
      · rw [seg_out q, seg_out q]
        unfold ctB at hB1
        exact bt_at (hB2.trans hB1.symm) (by omega)
    · have e : mtB (setF (putA S1 104 (seg T.1 (T.1 + m) (tfd T.1 zz) (S1.2.1 104))) 96 14 (T.1 + m)) t = mtB S1 t := by
        unfold mtB
        show bt ((putA S1 104 _).2.1 103 t) (fun i => (putA S1 104 _).2.1 102 (160 * t + i)) = _
        rw [p102, p103]
      rw [e]; exact e2 t t0 t1
end INVS
