/-! text, way -/
theorem mtx_103 {S : SS} {tc tp : Int} : (mtx S tc tp).2.1 103 = iup (S.2.1 103) tc tp := by
  show (setA (putA S 102 _) 103 tc tp).2.1 103 = _
  unfold setA
  rw [putA_at, putA_ne (by decide)]
theorem mtx_102 {S : SS} {tc tp : Int} : (mtx S tc tp).2.1 102 = seg (160 * tc) (160 * tc + tp) (fun j => S.2.1 104 (j - 160 * tc)) (S.2.1 102) := by
  show (setA (putA S 102 _) 103 tc tp).2.1 102 = _
  unfold setA
  rw [putA_ne (by decide), putA_at]
theorem mtx_ne {S : SS} {tc tp : Int} {a : Nat} (h1 : a ≠ 102) (h2 : a ≠ 103) : (mtx S tc tp).2.1 a = S.2.1 a := (putA_ne h2).trans (putA_ne h1)
theorem mtB_mtx_lt {S : SS} {tc tp t : Int} (ht : 0 ≤ t ∧ t < tc) (hz : S.2.1 103 t ≤ 160) : mtB (mtx S tc tp) t = mtB S t := by
  unfold mtB
  rw [mtx_103, mtx_102, iup_ne (by omega)]
  exact bt_ext (fun i i0 i1 => seg_out (by omega))
section INVS
variable {g : GC} {p : Int} {n : Nat} {sh : SH} {S S' S1 : SS} {F : ZF} {P : ZP} {V : ZV} {T : ZT} {H : ZH} {c : Int} {z y : ZZ}
theorem I_mtx {tc tp : Int} {B0 : Int → Int} (hI : INV2 p n sh S z (F, P, V, T, H, c)) (e1 : T.2.2.1 = tc) (e2 : T.1 = tp) (hB : bt 0 (S.2.1 104) = B0) : INV2 p n sh (mtx S tc tp) z (F, P, V, (0, B0, T.2.2), H, c) := by
  subst e1
  subst e2
  refine I_mt hI (fun a k ha => setF_ne (by omega)) (fun a a1 a2 _ => mtx_ne a1 a2) rfl ?_
  obtain ⟨hM, hV, e1, e2⟩ := hI.2.1.2.2.2.1
  have hM2 := MxW_mtx hM hV
  obtain ⟨b1, b2, b3, b4, b5, b6⟩ := hV
  have r4 : (mtx S T.2.2.1 T.1).1 96 14 = 0 := setF_at
  refine ⟨hM2, ⟨b1, b2, b3, r4, (show (0 : Int) ≤ 0 ∧ (0 : Int) ≤ 160 by decide), by rw [mtx_ne (by decide) (by decide)]; exact b6⟩, by rw [mtx_ne (by decide) (by decide)]; exact hB, fun t t0 t1 => ?_⟩
  rw [mtB_mtx_lt ⟨t0, t1⟩ (hM.2.2.2.2.2.2.2.2.2.2 t).2]
  exact e2 t t0 t1
theorem TtR_Eqa {x : Nat} (h : TtR x S S') {a : Nat} (h1 : a ≠ 5) (h2 : a ≠ 7) (h3 : a ≠ 8) (h4 : a ≠ 43) (h5 : a ≠ x) (h6 : a ≠ x + 1) (h7 : a ≠ x + 2) : Eqa S S' a := ⟨fun k => h.1 a k h1 (Or.inl h4) (Or.inl h5), h.2.1 a h2 h3 h6 h7, fun j => h.2.2 a j (Or.inl h4)⟩
/-- the class's texts behind a reading, a good one or not -/
theorem CT_text {tc : Int} (hI : INV2 p n sh S (F, P, V, T, H, c) y) (e : T.2.2.1 = tc) (htc : tc < 6) (hR : TtR (ta tc) S S') (hTa : TaW sh S' 0) (hTx : TxW sh S' (ta tc)) : CT sh S' (0, ctB S' 0, T.2.2) := by
  subst e
  have hb := ta_bd (i := T.2.2.1) (by have := I_tc hI; omega)
  have htc2 := I_tc hI
  obtain ⟨t1, t2, t3, t4, t5, t6, t7, t8, t9, t10, t11⟩ := hI.1.2.2.2.1
  have hd : ∀ t : Int, 0 ≤ t → t ≠ T.2.2.1 → ta t + 4 ≤ ta T.2.2.1 ∨ ta T.2.2.1 + 4 ≤ ta t := fun t t0 tn => by unfold ta; omega
  refine ⟨hTa, rfl, (hR.1 0 10 (by decide) (by omega) (by omega)).trans t3, (hR.1 0 11 (by decide) (by omega) (by omega)).trans t4, t5, t6, fun t u0 u1 => ?_, fun t u0 u1 => ?_, by rw [hR.2.1 10 (by decide) (by decide) (by omega) (by omega)]; exact t9, t10, (hR.2.2 43 0 (Or.inr (by decide))).trans t11⟩
  · by_cases q : t = T.2.2.1
    · rw [q]; exact hTx
    · have h1 := hd t u0 q
      have h2 := ta_bd ⟨u0, u1⟩
      exact TxW_sm (fun _ _ _ => rfl) (fun a a1 a2 => TtR_Eqa hR (by omega) (by omega) (by omega) (by omega) (by omega) (by omega) (by omega)) (t7 t u0 u1)
  · have u2 : t < T.2.2.1 := u1
    have h1 := hd t u0 (by omega)
    have h2 := ta_bd (i := t) ⟨u0, by omega⟩
    have E : ∀ a : Nat, ta t ≤ a → a ≤ ta t + 3 → Eqa S S' a := fun a a1 a2 => TtR_Eqa hR (by omega) (by omega) (by omega) (by omega) (by omega) (by omega) (by omega)
    have e0 := E (ta t) (by omega) (by omega)
    exact TxP_sm (e0.1 1) (e0.1 3) (E (ta t + 1) (by omega) (by omega)).2.1 (E (ta t + 2) (by omega) (by omega)).2.1 (t8 t u0 u1)
theorem bt_0 {f h : Int → Int} : bt 0 f = bt 0 h := bt_ext (fun i i0 i1 => by omega)
set_option maxHeartbeats 4000000 in
theorem pr_text (hI : INV2 p n sh S (F, P, V, T, H, c) (F, P, V, T, H, c)) : Pair g p vI mX9_text mX10_text 47 0 0 47 [] sh S n := by
  intro Q hk
  have htc := I_tc hI
  obtain ⟨c10, c11⟩ := I_tcE hI
  obtain ⟨t1, t2, t3, t4, t5, t6, t7, t8, t9, t10, t11⟩ := hI.1.2.2.2.1
  have step : ∀ S' : SS, T.2.2.1 < 6 → TtR (ta T.2.2.1) S S' → TaW sh S' 0 → TxW sh S' (ta T.2.2.1) → INV2 p n sh S' (F, P, V, (0, ctB S' 0, T.2.2), H, c) (F, P, V, T, H, c) := fun S' hlt hR hTa hTx => by
    have hb := ta_bd (i := T.2.2.1) (by omega)
    exact I_tx hI (fun k _ _ => hR.1 0 k (by decide) (by omega) (by omega)) (fun a j ha => hR.2.2 a j (Or.inl ha)) (fun a ha => TtR_Eqa hR (by omega) (by omega) (by omega) (by omega) (by omega) (by omega) (by omega)) (CT_text hI rfl hlt hR hTa hTx)
  refine c_X9_text (tc := T.2.2.1) (I_W hI) (I_TaW hI) (I_B hI) c10 htc.1 t10 t11 (fun h => I_TxW hI (by omega)) (fun h0 => ?_) (fun hlt kf S' hp1 hR hTa hTx => ?_) (fun hlt X S' hp1 hR hTa hTx hTP => ?_)
  · refine hk (-4) sh S n (I_s96 hI) (fun Q2 h2 => ?_)
    exact c_X10_textG (I_MT hI) (I_Mq hI) rfl (fun _ => h2 S (I_ok hI)) (fun h3 => by exfalso; omega) (fun h3 => by exfalso; omega)
  · have h1 := step S' hlt hR hTa hTx
    refine hk _ sh S' n (I_s96 hI) (fun Q2 h2 => ?_)
    have eB : bt T.1 (S'.2.1 104) = T.2.1 := I_MB h1
    refine c_X10_textG (I_MT h1) (I_Mq h1) rfl (fun h3 => by exfalso; omega) (fun _ kf2 S2 hp2 hg => ?_) (fun _ x S2 hp2 hg => ?_)
    · rw [eB, hp1] at hp2
      cases hp2
      rw [eB]
      have h3 := I_mtx h1 rfl rfl (B0 := ctB S' 0) (by unfold ctB; exact bt_0)
      exact h2 _ (I_ok (I_scr h3 (GrR_MdW hg (I_M h3)) (GrR_scr hg)))
    · rw [eB, hp1] at hp2
      cases hp2
  · have h1 := step S' hlt hR hTa hTx
    have hb := ta_bd (i := T.2.2.1) (by omega)
    have h4 : INV2 p n sh (setF S' 0 10 (T.2.2.1 + 1)) (F, P, V, (0, ctB S' 0, T.2.2.1 + 1, T.2.2.2.1, fun t => if t = T.2.2.1 then X else T.2.2.2.2 t), H, c) (F, P, V, T, H, c) := by
      have h : ∀ a : Nat, a ≠ 0 → Eqa S' (setF S' 0 10 (T.2.2.1 + 1)) a := fun a ha => Eqa_F ha
      refine I_tx h1 (fun k k1 _ => setF_ne (Or.inr k1)) (fun _ _ _ => rfl) (fun a ha => h a (by omega)) ?_
      obtain ⟨u1, u2, u3, u4, u5, u6, u7, u8, u9, u10, u11⟩ := h1.1.2.2.2.1
      refine ⟨TaW_sm (fun _ _ => rfl) (fun a a1 a2 => h a (by omega)) u1, rfl, setF_at, (setF_ne (by decide)).trans u4, by show 1 ≤ T.2.2.1 + 1 ∧ T.2.2.1 + 1 ≤ 6; omega, by show 0 ≤ T.2.2.2.1 ∧ T.2.2.2.1 < T.2.2.1 + 1; omega, fun q q0 q1 => TxW_sm (fun _ _ _ => rfl) (fun a a1 a2 => h a (by have := ta_bd ⟨q0, q1⟩; omega)) (u7 q q0 q1), fun q q0 q1 => ?_, u9, u10, u11⟩
      have q2 : q < T.2.2.1 + 1 := q1
      have hq := ta_bd (i := q) ⟨q0, by omega⟩
      show TxP _ (ta q) (if q = T.2.2.1 then X else T.2.2.2.2 q)
      by_cases cq : q = T.2.2.1
      · rw [if_pos cq, cq]
        exact TxP_sm (setF_ne (Or.inl (by omega))) (setF_ne (Or.inl (by omega))) rfl rfl hTP
      · rw [if_neg cq]
        exact TxP_sm (setF_ne (Or.inl (by omega))) (setF_ne (Or.inl (by omega))) rfl rfl (u8 q q0 (show q < T.2.2.1 by omega))
    have eC : ∀ f : Int → Int, bt 0 f = ctB S' 0 := fun f => by unfold ctB; exact bt_0
    generalize setF S' 0 10 (T.2.2.1 + 1) = S1 at h4 ⊢
    refine hk _ sh S1 n (I_s96 hI) (fun Q2 h2 => ?_)
    have eB : bt T.1 (S1.2.1 104) = T.2.1 := I_MB h4
    refine c_X10_textG (I_MT h4) (I_Mq h4) rfl (fun h3 => by exfalso; omega) (fun _ kf2 S2 hp2 hg => ?_) (fun _ x S2 hp2 hg => ?_)
    · rw [eB, hp1] at hp2
      cases hp2
    · rw [eB, hp1] at hp2
      cases hp2
      have h5 := I_mtx h4 rfl rfl (B0 := ctB S' 0) (eC _)
      have h6 := I_scr h5 (GrR_MdW hg (I_M h5)) (GrR_scr hg)
      have eT : mtB S2 T.2.2.1 = T.2.1 := by rw [mtB_scr (GrR_scr hg), mtB_mtx]; exact eB
      refine h2 _ (I_ok (z := (F, P, V, (0, ctB S' 0, T.2.2.1 + 1, T.2.2.2.1, fun t => if t = T.2.2.1 then X else T.2.2.2.2 t), H, c)) (I_mt h6 (fun a k ha => setF_ne (by omega)) (fun _ _ _ _ => rfl) rfl ?_))
      obtain ⟨⟨a1, a2, a3, a4, a5, a6, a7, a8, a9, a10, a11⟩, ⟨b1, b2, b3, b4, b5, b6⟩, e1, e2⟩ := h6.2.1.2.2.2.1
      refine ⟨⟨a1, a2, a3, a4, a5, setF_at, (setF_ne (by decide)).trans a7, by show 1 ≤ T.2.2.1 + 1 ∧ T.2.2.1 + 1 ≤ 6; omega, by show 0 ≤ T.2.2.2.1 ∧ T.2.2.2.1 < T.2.2.1 + 1; omega, a10, a11⟩, ⟨b1, b2, b3, (setF_ne (by decide)).trans b4, b5, b6⟩, e1, fun t u0 u1 => ?_⟩
      have u2 : t < T.2.2.1 + 1 := u1
      show ptx (tkk (mtB S2 t)) = .inr (if t = T.2.2.1 then X else T.2.2.2.2 t)
      by_cases ct : t = T.2.2.1
      · rw [if_pos ct, ct, eT]
        exact hp1
      · rw [if_neg ct]
        exact e2 t u0 (show t < T.2.2.1 by omega)
end INVS
