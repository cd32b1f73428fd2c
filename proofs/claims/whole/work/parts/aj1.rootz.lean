/-! root once more: the room is asked only where the POLY is not 0 -/
set_option maxRecDepth 100000 in
set_option maxHeartbeats 4000000 in
theorem c_X9_rootz {g : GC} {p a i : Int} {sh : SH} {S : SS} {n : Nat} {Q : Option Value → GA → Nat → Prop} (hW : PbW p sh S) (hr : (-2147483648 ≤ a ∧ a ≤ 2147483647) ∧ (-2147483648 ≤ i ∧ i ≤ 2147483647)) (h0 : ¬ (0 ≤ a ∧ a < 8) → Q (some (.int (iI (-2)))) (hp g sh S) n) (hz : (0 ≤ a ∧ a < 8) → plen (pr S a) 32 = 0 → Q (some (.int (iI (-3)))) (hp g sh S) n)
    (hroom : (0 ≤ a ∧ a < 8) → plen (pr S a) 32 ≠ 0 → ∀ k : Nat, (∀ s : Nat, s ≤ k → 0 < plen (eu p (pr S a) (skx p (pr S a)) s).2.1 64) → k ≤ 62 ∧ plen (pdiv p (eu p (pr S a) (skx p (pr S a)) k).1 (eu p (pr S a) (skx p (pr S a)) k).2.1 (plen (eu p (pr S a) (skx p (pr S a)) k).1 64) (plen (eu p (pr S a) (skx p (pr S a)) k).2.1 64)).1 64 + plen (eu p (pr S a) (skx p (pr S a)) k).2.2.2 64 ≤ 65)
    (h1 : (0 ≤ a ∧ a < 8) → plen (pr S a) 32 ≠ 0 → ∀ (k : Nat) (S' : SS), (∀ s : Nat, s < k → 0 < plen (eu p (pr S a) (skx p (pr S a)) s).2.1 64) → plen (eu p (pr S a) (skx p (pr S a)) k).2.1 64 ≤ 0 → PbW p sh S' → Same D1 S S' → (∀ i : Int, 0 ≤ i → i < 8 → pr S' i = pr S i) → (i = -1 → Q (some (.int (iI (plen (eu p (pr S a) (skx p (pr S a)) k).1 64 - 1)))) (hp g sh S') n) ∧ (i ≠ -1 → (0 ≤ i ∧ i < plen (eu p (pr S a) (skx p (pr S a)) k).1 64 - 1) → Q (some (.int (iI (srt p p.toNat 0 i (eu p (pr S a) (skx p (pr S a)) k).1)))) (hp g sh S') n) ∧ (i ≠ -1 → ¬ (0 ≤ i ∧ i < plen (eu p (pr S a) (skx p (pr S a)) k).1 64 - 1) → Q (some (.int (iI (-1)))) (hp g sh S') n)) : GCall g mX9_root 7 0 0 [gr g 0, .int (iI a), .int (iI i)] (hp g sh S) n Q := by
  have hW' := hW
  obtain ⟨hK, hA, hMd, hPo⟩ := hW'
  obtain ⟨k0, q0, q1, q2, q3, q4, q7, q8, q9, q12, q13, q14, s1, s4, s9, s10, s11, f1, f2, f3⟩ := hK
  have hP := hA.1.1
  have hRs := hA.1.2.1
  have hpb := hP.bd
  have h12 := hRs.1
  have h13 := hA.1.2.2.1
  have h2s := hMd.1.1
  refine GCall.of (by decide) (Nat.le_of_ble_eq_true rfl) (ls := [(0, _), (1, _), (2, _)]) rfl ?_
  have eL : 0 ≤ a ∧ a < 8 → S.1 (pl a) 1 = plen (pr S a) 32 := fun z => (hPo a z.1 z.2).2.2.1
  have hbL := plen_bd (pr S a) 32
  have Kf : (0 ≤ a ∧ a < 8) → plen (pr S a) 32 ≠ 0 → ∀ (k : Nat) (S1 : SS), AlgW p sh S1 → Same AlgD S S1 → (∀ s : Nat, s < k → 0 < plen (eu p (pr S a) (skx p (pr S a)) s).2.1 64) → plen (eu p (pr S a) (skx p (pr S a)) k).2.1 64 ≤ 0 → rv S1 18 = (eu p (pr S a) (skx p (pr S a)) k).1 → G g mX9_root 7 0 0 39 [(3, .int (iI (plen (eu p (pr S a) (skx p (pr S a)) k).1 64 - 1))), (0, gr g 0), (1, .int (iI a)), (2, .int (iI i))] [] (hp g sh S1) n 0 0 Q := by
    intro ca cz k S1 z1 z2 z3 z4 z5
    obtain ⟨W1, s1', e1⟩ := PbW_alg hW z2 z1
    have hbk := plen_bd (eu p (pr S a) (skx p (pr S a)) k).1 64
    have hh := h1 ca cz k S1 z3 z4 W1 s1' e1
    have u1 : S1.2.2 0 1 = some 13 := W1.1.2.2.1
    have Kr : i ≠ -1 → (0 ≤ i ∧ i < plen (eu p (pr S a) (skx p (pr S a)) k).1 64 - 1) → ∀ S2 : SS, AlgW p sh S2 → Same AlgD S1 S2 → Q (some (.int (iI (srt p p.toNat 0 i (rv S1 18))))) (hp g sh S2) n := by
      intro ci cw S2 y1 y2
      obtain ⟨W2, s2', e2⟩ := PbW_alg W1 y2 y1
      rw [z5]
      exact (h1 ca cz k S2 z3 z4 W2 (Same_tr s1' s2') (fun j x y => (e2 j x y).trans (e1 j x y))).2.1 ci cw
    refine G_iload_n (pc := 39) dX9_root_39 rfl ?_
    refine G_iconst (pc := 40) dX9_root_40 ?_
    refine G_icmp_ne (pc := 41) 46 dX9_root_41 rfl (by omega) (fun c41 => ?_) (fun c41 => ?_)
    · skip
      refine G_iload_n (pc := 46) dX9_root_46 rfl ?_
      refine G_iload_n (pc := 47) dX9_root_47 rfl ?_
      refine G_callS (pc := 48) (d2 := 1) (mc2 := 0) (ms2 := 0) (As := [_, _]) dX9_root_48 kX9_isWithin lkX9_111 rfl rfl (Nat.le_of_ble_eq_true rfl) ⟨by decide, by decide⟩ (by decide) ?_
      refine c_X9_isWithin (by omega) (fun w48 => ?_) (fun w48 => ?_)
      · show G _ _ _ _ _ _ _ _ _ _ _ _ _
        refine G_if_eq_f (pc := 51) 65 dX9_root_51 rfl (by decide) (by decide) ?_
        refine S_aload_n (pc := 54) dX9_root_54 rfl ?_
        refine S_getR (pc := 55) dX9_root_55 fX9_63 (by assumption) rfl (by assumption) ?_
        refine G_iload_n (pc := 58) dX9_root_58 rfl ?_
        refine S_callV (pc := 59) (ci := 0) (d2 := 5) (mc2 := 0) (ms2 := 0) (As := [_]) dX9_root_59 kX0_soughtRoot lkX9_204 (by assumption) rfl rfl rfl (Nat.le_of_ble_eq_true rfl) ⟨by decide, by decide⟩ (by decide) ?_
        refine c_X0_soughtRoot z1 (by omega) (fun S2 y1 y2 => ?_)
        · show G _ _ _ _ _ _ _ _ _ _ _ _ _
          refine G_goto (pc := 62) 66 dX9_root_62 rfl ?_
          refine G_iret (pc := 66) dX9_root_66 rfl (by decide) ?_
          first | exact hh.1 (by omega) | exact Kr (by omega) w48 S2 y1 y2 | exact hh.2.2 (by omega) w48
      · show G _ _ _ _ _ _ _ _ _ _ _ _ _
        refine G_if_eq_t (pc := 51) 65 dX9_root_51 rfl (by decide) (by decide) ?_
        refine G_iconst (pc := 65) dX9_root_65 ?_
        refine G_iret (pc := 66) dX9_root_66 rfl (by decide) ?_
        first | exact hh.1 (by omega) | exact Kr (by omega) w48 S2 y1 y2 | exact hh.2.2 (by omega) w48
    · skip
      refine G_iload_n (pc := 44) dX9_root_44 rfl ?_
      refine G_iret (pc := 45) dX9_root_45 rfl (by decide) ?_
      first | exact hh.1 (by omega) | exact Kr (by omega) w48 S2 y1 y2 | exact hh.2.2 (by omega) w48
  refine G_iload_n (pc := 0) dX9_root_0 rfl ?_
  refine G_callS (pc := 1) (d2 := 2) (mc2 := 0) (ms2 := 0) (As := [_]) dX9_root_1 kX9_isPoly lkX9_107 rfl rfl (Nat.le_of_ble_eq_true rfl) ⟨by decide, by decide⟩ (by decide) ?_
  refine c_X9_isPoly (by omega) (fun w1 => ?_) (fun w1 => ?_)
  · show G _ _ _ _ _ _ _ _ _ _ _ _ _
    refine G_if_ne_t (pc := 4) 10 dX9_root_4 rfl (by decide) (by decide) ?_
    refine S_aload_n (pc := 10) dX9_root_10 rfl ?_
    refine S_getR (pc := 11) dX9_root_11 fX9_11 (by assumption) rfl (by assumption) ?_
    refine G_iload_n (pc := 14) dX9_root_14 rfl ?_
    refine S_aald (pc := 15) dX9_root_15 (by assumption) rfl (by omega) (f1 _ w1.1 w1.2) ?_
    refine S_callV (pc := 16) (ci := 4) (d2 := 1) (mc2 := 0) (ms2 := 0) (As := []) dX9_root_16 kX4_length lkX9_127 (hPo _ w1.1 w1.2).1.1 rfl rfl rfl (Nat.le_of_ble_eq_true rfl) ⟨by decide, by decide⟩ (by decide) ?_
    refine c_X4_length (hPo a w1.1 w1.2).1 ?_
    rw [eL w1]
    show G _ _ _ _ _ _ _ _ _ _ _ _ _
    refine G_if_ne (pc := 19) 25 dX9_root_19 rfl (by omega) (fun c19 => ?_) (fun c19 => ?_)
    · skip
      refine S_aload_n (pc := 25) dX9_root_25 rfl ?_
      refine S_getR (pc := 26) dX9_root_26 fX9_63 (by assumption) rfl (by assumption) ?_
      refine S_aload_n (pc := 29) dX9_root_29 rfl ?_
      refine S_getR (pc := 30) dX9_root_30 fX9_11 (by assumption) rfl (by assumption) ?_
      refine G_iload_n (pc := 33) dX9_root_33 rfl ?_
      refine S_aald (pc := 34) dX9_root_34 (by assumption) rfl (by omega) (f1 _ w1.1 w1.2) ?_
      refine S_callV (pc := 35) (ci := 0) (d2 := 6) (mc2 := 0) (ms2 := 0) (As := [_]) dX9_root_35 kX0_seekRoots lkX9_200 (by assumption) rfl rfl rfl (Nat.le_of_ble_eq_true rfl) ⟨by decide, by decide⟩ (by decide) ?_
      refine c_X0_seekRoots hW.2.1 (hPo a w1.1 w1.2) (by decide) pl_alg (by rw [plen_more (hPo a w1.1 w1.2).2.2.2.1 (by decide)]; exact (show 0 < plen (pr S a) 32 by omega)) (hroom w1 (show plen (pr S a) 32 ≠ 0 by omega)) (fun k S1 z1 z2 z3 z4 z5 => ?_)
      · show G _ _ _ _ _ _ _ _ _ _ _ _ _
        refine G_istore_n (pc := 38) (ls' := [(3, _), (0, _), (1, _), (2, _)]) dX9_root_38 (by decide) rfl ?_
        exact Kf w1 (by omega) k S1 z1 z2 z3 z4 z5
    · skip
      refine G_bipush (pc := 22) dX9_root_22 rfl ?_
      refine G_iret (pc := 24) dX9_root_24 rfl (by decide) ?_
      first | exact h0 (by omega) | exact hz w1 (by omega)
  · show G _ _ _ _ _ _ _ _ _ _ _ _ _
    refine G_if_ne_f (pc := 4) 10 dX9_root_4 rfl (by decide) (by decide) ?_
    refine G_bipush (pc := 7) dX9_root_7 rfl ?_
    refine G_iret (pc := 9) dX9_root_9 rfl (by decide) ?_
    first | exact h0 (by omega) | exact hz w1 (by omega)
