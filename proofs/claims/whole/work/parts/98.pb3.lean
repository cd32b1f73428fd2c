/-! PolyBench: gcd, cofactor, compose, move, order, root -/
theorem Al14 {p : Int} {sh : SH} {S : SS} (h : AlgW p sh S) : Row p sh S 14 64 := h.1.2.2.2.2.2.2.2.2.1
theorem Al16 {p : Int} {sh : SH} {S : SS} (h : AlgW p sh S) : Row p sh S 16 64 := h.1.2.2.2.2.2.2.2.2.2.1
theorem Al18 {p : Int} {sh : SH} {S : SS} (h : AlgW p sh S) : Row p sh S 18 64 := h.1.2.2.2.2.2.2.2.2.2.2.1
set_option maxRecDepth 100000 in
set_option maxHeartbeats 4000000 in
theorem c_X9_gcd {g : GC} {p t a b : Int} {sh : SH} {S : SS} {n : Nat} {Q : Option Value → GA → Nat → Prop} (hW : PbW p sh S) (hr : (-2147483648 ≤ t ∧ t ≤ 2147483647) ∧ (-2147483648 ≤ a ∧ a ≤ 2147483647) ∧ (-2147483648 ≤ b ∧ b ≤ 2147483647)) (h0 : ¬ ((0 ≤ t ∧ t < 8) ∧ (0 ≤ a ∧ a < 8) ∧ (0 ≤ b ∧ b < 8)) → Q (some (.int (iI (-2)))) (hp g sh S) n) (hroom : (0 ≤ a ∧ a < 8) → (0 ≤ b ∧ b < 8) → ∀ k : Nat, (∀ s : Nat, s ≤ k → 0 < plen (eu p (pr S b) (pr S a) s).2.1 64) → k ≤ 62 ∧ plen (pdiv p (eu p (pr S b) (pr S a) k).1 (eu p (pr S b) (pr S a) k).2.1 (plen (eu p (pr S b) (pr S a) k).1 64) (plen (eu p (pr S b) (pr S a) k).2.1 64)).1 64 + plen (eu p (pr S b) (pr S a) k).2.2.2 64 ≤ 65) (h1 : (0 ≤ t ∧ t < 8) → (0 ≤ a ∧ a < 8) → (0 ≤ b ∧ b < 8) → ∀ (k : Nat) (S' : SS), (∀ s : Nat, s < k → 0 < plen (eu p (pr S b) (pr S a) s).2.1 64) → plen (eu p (pr S b) (pr S a) k).2.1 64 ≤ 0 → PbE p sh S t (clip 32 (pscl p (eu p (pr S b) (pr S a) k).1 (eu p (pr S b) (pr S a) k).1)) S' → Q (some (.int (iI (plen (clip 32 (pscl p (eu p (pr S b) (pr S a) k).1 (eu p (pr S b) (pr S a) k).1)) 32)))) (hp g sh S') n) : GCall g mX9_gcd 7 0 0 [gr g 0, .int (iI t), .int (iI a), .int (iI b)] (hp g sh S) n Q := by
  have hW' := hW
  obtain ⟨hK, hA, hMd, hPo⟩ := hW'
  obtain ⟨k0, q0, q1, q2, q3, q4, q7, q8, q9, q12, q13, q14, s1, s4, s9, s10, s11, f1, f2, f3⟩ := hK
  have hP := hA.1.1
  have hRs := hA.1.2.1
  have hpb := hP.bd
  have h12 := hRs.1
  have h13 := hA.1.2.2.1
  have h2s := hMd.1.1
  refine GCall.of (by decide) (Nat.le_of_ble_eq_true rfl) (ls := [(0, _), (1, _), (2, _), (3, _)]) rfl ?_
  by_cases c : (0 ≤ t ∧ t < 8) ∧ (0 ≤ a ∧ a < 8) ∧ (0 ≤ b ∧ b < 8)
  · obtain ⟨ct, ca, cb⟩ := c
    have rA := hPo a ca.1 ca.2
    have rB := hPo b cb.1 cb.2
    have Kf : ∀ (k : Nat) (S1 : SS), AlgW p sh S1 → Same AlgD S S1 → (∀ s : Nat, s < k → 0 < plen (eu p (pr S b) (pr S a) s).2.1 64) → plen (eu p (pr S b) (pr S a) k).2.1 64 ≤ 0 → rv S1 18 = pscl p (eu p (pr S b) (pr S a) k).1 (eu p (pr S b) (pr S a) k).1 → G g mX9_gcd 7 0 0 33 [(0, gr g 0), (1, .int (iI t)), (2, .int (iI a)), (3, .int (iI b))] [gr g 18, .int (iI t), gr g 0] (hp g sh S1) n 0 0 Q := by
      intro k S1 z1 z2 z3 z4 z5
      obtain ⟨W1, s1', e1⟩ := PbW_alg hW z2 z1
      have r18 := Al18 W1.2.1
      have hE := PbE_bec W1 s1' e1 ct r18
      rw [z5] at hE
      refine S_callV (pc := 33) (ci := 9) (d2 := 4) (mc2 := 0) (ms2 := 0) (As := [_, _]) dX9_gcd_33 kX9_become lkX9_144 (by assumption) rfl rfl rfl (Nat.le_of_ble_eq_true rfl) ⟨by decide, by decide⟩ (by decide) ?_
      refine c_X9_become W1 ct r18 (Ne.symm (pl_ne (by decide))) ?_
      rw [z5]
      show G _ _ _ _ _ _ _ _ _ _ _ _ _
      refine G_iret (pc := 36) dX9_gcd_36 rfl (by decide) ?_
      exact h1 ct ca cb k _ z3 z4 hE
    refine G_iload_n (pc := 0) dX9_gcd_0 rfl ?_
    refine G_iload_n (pc := 1) dX9_gcd_1 rfl ?_
    refine G_iload_n (pc := 2) dX9_gcd_2 rfl ?_
    refine G_callS (pc := 3) (d2 := 3) (mc2 := 0) (ms2 := 0) (As := [_, _, _]) dX9_gcd_3 kX9_arePolys lkX9_132 rfl rfl (Nat.le_of_ble_eq_true rfl) ⟨by decide, by decide⟩ (by decide) ?_
    refine c_X9_arePolys (by omega) (fun _ => ?_) (fun z => absurd ⟨ct, ca, cb⟩ z)
    · show G _ _ _ _ _ _ _ _ _ _ _ _ _
      refine G_if_ne_t (pc := 6) 12 dX9_gcd_6 rfl (by decide) (by decide) ?_
      refine S_aload_n (pc := 12) dX9_gcd_12 rfl ?_
      refine G_iload_n (pc := 13) dX9_gcd_13 rfl ?_
      refine S_aload_n (pc := 14) dX9_gcd_14 rfl ?_
      refine S_getR (pc := 15) dX9_gcd_15 fX9_63 (by assumption) rfl (by assumption) ?_
      refine S_aload_n (pc := 18) dX9_gcd_18 rfl ?_
      refine S_getR (pc := 19) dX9_gcd_19 fX9_11 (by assumption) rfl (by assumption) ?_
      refine G_iload_n (pc := 22) dX9_gcd_22 rfl ?_
      refine S_aald (pc := 23) dX9_gcd_23 (by assumption) rfl (by omega) (f1 _ ca.1 ca.2) ?_
      refine S_aload_n (pc := 24) dX9_gcd_24 rfl ?_
      refine S_getR (pc := 25) dX9_gcd_25 fX9_11 (by assumption) rfl (by assumption) ?_
      refine G_iload_n (pc := 28) dX9_gcd_28 rfl ?_
      refine S_aald (pc := 29) dX9_gcd_29 (by assumption) rfl (by omega) (f1 _ cb.1 cb.2) ?_
      refine S_callV (pc := 30) (ci := 0) (d2 := 6) (mc2 := 0) (ms2 := 0) (As := [_, _]) dX9_gcd_30 kX0_commonDivisor lkX9_187 (by assumption) rfl rfl rfl (Nat.le_of_ble_eq_true rfl) ⟨by decide, by decide⟩ (by decide) ?_
      refine c_X0_commonDivisor hW.2.1 rA rB pl_alg pl_alg (hroom ca cb) (fun k S1 z1 z2 z3 z4 z5 => ?_)
      · show G _ _ _ _ _ _ _ _ _ _ _ _ _
        exact Kf k S1 z1 z2 z3 z4 z5
  · skip
    refine G_iload_n (pc := 0) dX9_gcd_0 rfl ?_
    refine G_iload_n (pc := 1) dX9_gcd_1 rfl ?_
    refine G_iload_n (pc := 2) dX9_gcd_2 rfl ?_
    refine G_callS (pc := 3) (d2 := 3) (mc2 := 0) (ms2 := 0) (As := [_, _, _]) dX9_gcd_3 kX9_arePolys lkX9_132 rfl rfl (Nat.le_of_ble_eq_true rfl) ⟨by decide, by decide⟩ (by decide) ?_
    refine c_X9_arePolys (by omega) (fun z => absurd z c) (fun _ => ?_)
    · show G _ _ _ _ _ _ _ _ _ _ _ _ _
      refine G_if_ne_f (pc := 6) 12 dX9_gcd_6 rfl (by decide) (by decide) ?_
      refine G_bipush (pc := 9) dX9_gcd_9 rfl ?_
      refine G_iret (pc := 11) dX9_gcd_11 rfl (by decide) ?_
      exact h0 c
set_option maxRecDepth 100000 in
set_option maxHeartbeats 4000000 in
theorem c_X9_cofactor {g : GC} {p t a b : Int} {sh : SH} {S : SS} {n : Nat} {Q : Option Value → GA → Nat → Prop} (hW : PbW p sh S) (hr : (-2147483648 ≤ t ∧ t ≤ 2147483647) ∧ (-2147483648 ≤ a ∧ a ≤ 2147483647) ∧ (-2147483648 ≤ b ∧ b ≤ 2147483647)) (h0 : ¬ ((0 ≤ t ∧ t < 8) ∧ (0 ≤ a ∧ a < 8) ∧ (0 ≤ b ∧ b < 8)) → Q (some (.int (iI (-2)))) (hp g sh S) n) (hroom : (0 ≤ a ∧ a < 8) → (0 ≤ b ∧ b < 8) → ∀ k : Nat, (∀ s : Nat, s ≤ k → 0 < plen (eu p (pr S b) (pr S a) s).2.1 64) → k ≤ 62 ∧ plen (pdiv p (eu p (pr S b) (pr S a) k).1 (eu p (pr S b) (pr S a) k).2.1 (plen (eu p (pr S b) (pr S a) k).1 64) (plen (eu p (pr S b) (pr S a) k).2.1 64)).1 64 + plen (eu p (pr S b) (pr S a) k).2.2.2 64 ≤ 65) (hO : (0 ≤ a ∧ a < 8) → (0 ≤ b ∧ b < 8) → ∀ k : Nat, (∀ s : Nat, s < k → 0 < plen (eu p (pr S b) (pr S a) s).2.1 64) → plen (eu p (pr S b) (pr S a) k).2.1 64 ≤ 0 → 0 < plen (pr S b) 64 → 0 < plen (eu p (pr S b) (pr S a) k).1 64 ∧ 0 < plen (pdiv p (pr S b) (eu p (pr S b) (pr S a) k).1 (plen (pr S b) 64) (plen (eu p (pr S b) (pr S a) k).1 64)).1 64) (h1 : (0 ≤ t ∧ t < 8) → (0 ≤ a ∧ a < 8) → (0 ≤ b ∧ b < 8) → ∀ (k : Nat) (S' : SS), (∀ s : Nat, s < k → 0 < plen (eu p (pr S b) (pr S a) s).2.1 64) → plen (eu p (pr S b) (pr S a) k).2.1 64 ≤ 0 → PbE p sh S t (clip 32 ((if 0 < plen (pr S b) 64 then cof p (pr S b) (eu p (pr S b) (pr S a) k).1 (eu p (pr S b) (pr S a) k).2.2.1 else pscl p (eu p (pr S b) (pr S a) k).1 (eu p (pr S b) (pr S a) k).2.2.1))) S' → Q (some (.int (iI (plen (clip 32 ((if 0 < plen (pr S b) 64 then cof p (pr S b) (eu p (pr S b) (pr S a) k).1 (eu p (pr S b) (pr S a) k).2.2.1 else pscl p (eu p (pr S b) (pr S a) k).1 (eu p (pr S b) (pr S a) k).2.2.1))) 32)))) (hp g sh S') n) : GCall g mX9_cofactor 7 0 0 [gr g 0, .int (iI t), .int (iI a), .int (iI b)] (hp g sh S) n Q := by
  have hW' := hW
  obtain ⟨hK, hA, hMd, hPo⟩ := hW'
  obtain ⟨k0, q0, q1, q2, q3, q4, q7, q8, q9, q12, q13, q14, s1, s4, s9, s10, s11, f1, f2, f3⟩ := hK
  have hP := hA.1.1
  have hRs := hA.1.2.1
  have hpb := hP.bd
  have h12 := hRs.1
  have h13 := hA.1.2.2.1
  have h2s := hMd.1.1
  refine GCall.of (by decide) (Nat.le_of_ble_eq_true rfl) (ls := [(0, _), (1, _), (2, _), (3, _)]) rfl ?_
  by_cases c : (0 ≤ t ∧ t < 8) ∧ (0 ≤ a ∧ a < 8) ∧ (0 ≤ b ∧ b < 8)
  · obtain ⟨ct, ca, cb⟩ := c
    have rA := hPo a ca.1 ca.2
    have rB := hPo b cb.1 cb.2
    have Kf : ∀ (k : Nat) (S1 : SS), AlgW p sh S1 → Same AlgD S S1 → (∀ s : Nat, s < k → 0 < plen (eu p (pr S b) (pr S a) s).2.1 64) → plen (eu p (pr S b) (pr S a) k).2.1 64 ≤ 0 → rv S1 18 = (if 0 < plen (pr S b) 64 then cof p (pr S b) (eu p (pr S b) (pr S a) k).1 (eu p (pr S b) (pr S a) k).2.2.1 else pscl p (eu p (pr S b) (pr S a) k).1 (eu p (pr S b) (pr S a) k).2.2.1) → G g mX9_cofactor 7 0 0 33 [(0, gr g 0), (1, .int (iI t)), (2, .int (iI a)), (3, .int (iI b))] [gr g 18, .int (iI t), gr g 0] (hp g sh S1) n 0 0 Q := by
      intro k S1 z1 z2 z3 z4 z5
      obtain ⟨W1, s1', e1⟩ := PbW_alg hW z2 z1
      have r18 := Al18 W1.2.1
      have hE := PbE_bec W1 s1' e1 ct r18
      rw [z5] at hE
      refine S_callV (pc := 33) (ci := 9) (d2 := 4) (mc2 := 0) (ms2 := 0) (As := [_, _]) dX9_cofactor_33 kX9_become lkX9_144 (by assumption) rfl rfl rfl (Nat.le_of_ble_eq_true rfl) ⟨by decide, by decide⟩ (by decide) ?_
      refine c_X9_become W1 ct r18 (Ne.symm (pl_ne (by decide))) ?_
      rw [z5]
      show G _ _ _ _ _ _ _ _ _ _ _ _ _
      refine G_iret (pc := 36) dX9_cofactor_36 rfl (by decide) ?_
      exact h1 ct ca cb k _ z3 z4 hE
    refine G_iload_n (pc := 0) dX9_cofactor_0 rfl ?_
    refine G_iload_n (pc := 1) dX9_cofactor_1 rfl ?_
    refine G_iload_n (pc := 2) dX9_cofactor_2 rfl ?_
    refine G_callS (pc := 3) (d2 := 3) (mc2 := 0) (ms2 := 0) (As := [_, _, _]) dX9_cofactor_3 kX9_arePolys lkX9_132 rfl rfl (Nat.le_of_ble_eq_true rfl) ⟨by decide, by decide⟩ (by decide) ?_
    refine c_X9_arePolys (by omega) (fun _ => ?_) (fun z => absurd ⟨ct, ca, cb⟩ z)
    · show G _ _ _ _ _ _ _ _ _ _ _ _ _
      refine G_if_ne_t (pc := 6) 12 dX9_cofactor_6 rfl (by decide) (by decide) ?_
      refine S_aload_n (pc := 12) dX9_cofactor_12 rfl ?_
      refine G_iload_n (pc := 13) dX9_cofactor_13 rfl ?_
      refine S_aload_n (pc := 14) dX9_cofactor_14 rfl ?_
      refine S_getR (pc := 15) dX9_cofactor_15 fX9_63 (by assumption) rfl (by assumption) ?_
      refine S_aload_n (pc := 18) dX9_cofactor_18 rfl ?_
      refine S_getR (pc := 19) dX9_cofactor_19 fX9_11 (by assumption) rfl (by assumption) ?_
      refine G_iload_n (pc := 22) dX9_cofactor_22 rfl ?_
      refine S_aald (pc := 23) dX9_cofactor_23 (by assumption) rfl (by omega) (f1 _ ca.1 ca.2) ?_
      refine S_aload_n (pc := 24) dX9_cofactor_24 rfl ?_
      refine S_getR (pc := 25) dX9_cofactor_25 fX9_11 (by assumption) rfl (by assumption) ?_
      refine G_iload_n (pc := 28) dX9_cofactor_28 rfl ?_
      refine S_aald (pc := 29) dX9_cofactor_29 (by assumption) rfl (by omega) (f1 _ cb.1 cb.2) ?_
      refine S_callV (pc := 30) (ci := 0) (d2 := 6) (mc2 := 0) (ms2 := 0) (As := [_, _]) dX9_cofactor_30 kX0_leastCofactor lkX9_190 (by assumption) rfl rfl rfl (Nat.le_of_ble_eq_true rfl) ⟨by decide, by decide⟩ (by decide) ?_
      refine c_X0_leastCofactor hW.2.1 rA rB pl_alg pl_alg (hroom ca cb) (hO ca cb) (fun k S1 z1 z2 z3 z4 z5 => ?_)
      · show G _ _ _ _ _ _ _ _ _ _ _ _ _
        exact Kf k S1 z1 z2 z3 z4 z5
  · skip
    refine G_iload_n (pc := 0) dX9_cofactor_0 rfl ?_
    refine G_iload_n (pc := 1) dX9_cofactor_1 rfl ?_
    refine G_iload_n (pc := 2) dX9_cofactor_2 rfl ?_
    refine G_callS (pc := 3) (d2 := 3) (mc2 := 0) (ms2 := 0) (As := [_, _, _]) dX9_cofactor_3 kX9_arePolys lkX9_132 rfl rfl (Nat.le_of_ble_eq_true rfl) ⟨by decide, by decide⟩ (by decide) ?_
    refine c_X9_arePolys (by omega) (fun z => absurd z c) (fun _ => ?_)
    · show G _ _ _ _ _ _ _ _ _ _ _ _ _
      refine G_if_ne_f (pc := 6) 12 dX9_cofactor_6 rfl (by decide) (by decide) ?_
      refine G_bipush (pc := 9) dX9_cofactor_9 rfl ?_
      refine G_iret (pc := 11) dX9_cofactor_11 rfl (by decide) ?_
      exact h0 c
set_option maxRecDepth 100000 in
set_option maxHeartbeats 4000000 in
theorem c_X9_compose {g : GC} {p t a b : Int} {sh : SH} {S : SS} {n : Nat} {Q : Option Value → GA → Nat → Prop} (hW : PbW p sh S) (hr : (-2147483648 ≤ t ∧ t ≤ 2147483647) ∧ (-2147483648 ≤ a ∧ a ≤ 2147483647) ∧ (-2147483648 ≤ b ∧ b ≤ 2147483647)) (h0 : ¬ ((0 ≤ t ∧ t < 8) ∧ (0 ≤ a ∧ a < 8) ∧ (0 ≤ b ∧ b < 8)) → Q (some (.int (iI (-2)))) (hp g sh S) n)
    (hroom : (0 ≤ a ∧ a < 8) → (0 ≤ b ∧ b < 8) → ¬ (1 < plen (pr S a) 32 ∧ 1 < plen (pr S b) 32 ∧ 32 < (plen (pr S a) 32 - 1) * (plen (pr S b) 32 - 1) + 1) → ∀ k : Nat, k < plen (pr S a) 32 → plen (cmpo p (pr S a) (pr S b) (plen (pr S a) 32) k) 64 + plen (pr S b) 32 ≤ 65)
    (h2 : (0 ≤ t ∧ t < 8) → (0 ≤ a ∧ a < 8) → (0 ≤ b ∧ b < 8) → (1 < plen (pr S a) 32 ∧ 1 < plen (pr S b) 32 ∧ 32 < (plen (pr S a) 32 - 1) * (plen (pr S b) 32 - 1) + 1) → Q (some (.int (iI (-4)))) (hp g sh S) n)
    (h1 : (0 ≤ t ∧ t < 8) → (0 ≤ a ∧ a < 8) → (0 ≤ b ∧ b < 8) → ¬ (1 < plen (pr S a) 32 ∧ 1 < plen (pr S b) 32 ∧ 32 < (plen (pr S a) 32 - 1) * (plen (pr S b) 32 - 1) + 1) → ∀ S' : SS, PbE p sh S t (clip 32 (cmpo p (pr S a) (pr S b) (plen (pr S a) 32) (plen (pr S a) 32).toNat)) S' → Q (some (.int (iI (plen (clip 32 (cmpo p (pr S a) (pr S b) (plen (pr S a) 32) (plen (pr S a) 32).toNat)) 32)))) (hp g sh S') n) : GCall g mX9_compose 6 0 0 [gr g 0, .int (iI t), .int (iI a), .int (iI b)] (hp g sh S) n Q := by
  have hW' := hW
  obtain ⟨hK, hA, hMd, hPo⟩ := hW'
  obtain ⟨k0, q0, q1, q2, q3, q4, q7, q8, q9, q12, q13, q14, s1, s4, s9, s10, s11, f1, f2, f3⟩ := hK
  have hP := hA.1.1
  have hRs := hA.1.2.1
  have hpb := hP.bd
  have h12 := hRs.1
  have h13 := hA.1.2.2.1
  have h2s := hMd.1.1
  refine GCall.of (by decide) (Nat.le_of_ble_eq_true rfl) (ls := [(0, _), (1, _), (2, _), (3, _)]) rfl ?_
  have hab := plen_bd (pr S a) 32
  have hbb := plen_bd (pr S b) 32
  have hmm : 1 < plen (pr S a) 32 → 1 < plen (pr S b) 32 → 0 ≤ (plen (pr S a) 32 - 1) * (plen (pr S b) 32 - 1) ∧ (plen (pr S a) 32 - 1) * (plen (pr S b) 32 - 1) ≤ 961 := fun h h' => ⟨Int.mul_nonneg (by omega) (by omega), Int.le_trans (Int.mul_le_mul (show plen (pr S a) 32 - 1 ≤ 31 by omega) (show plen (pr S b) 32 - 1 ≤ 31 by omega) (by omega) (by omega)) (by decide)⟩
  by_cases c : (0 ≤ t ∧ t < 8) ∧ (0 ≤ a ∧ a < 8) ∧ (0 ≤ b ∧ b < 8)
  · obtain ⟨ct, ca, cb⟩ := c
    have rA := hPo a ca.1 ca.2
    have rB := hPo b cb.1 cb.2
    have eA : S.1 (pl a) 1 = plen (pr S a) 32 := rA.2.2.1
    have eB : S.1 (pl b) 1 = plen (pr S b) 32 := rB.2.2.1
    have Kf : ¬ (1 < plen (pr S a) 32 ∧ 1 < plen (pr S b) 32 ∧ 32 < (plen (pr S a) 32 - 1) * (plen (pr S b) 32 - 1) + 1) → G g mX9_compose 6 0 0 65 [(5, .int (iI (plen (pr S b) 32))), (4, .int (iI (plen (pr S a) 32))), (0, gr g 0), (1, .int (iI t)), (2, .int (iI a)), (3, .int (iI b))] [] (hp g sh S) n 0 0 Q := by
      intro hf
      have hz : ∀ j : Int, plen (pr S b) 32 ≤ j → rv S (pl b) j = 0 := fun j hj => Sup_len rB.2.2.2.1 hj
      have ho := cmpo_ok (p := p) (L := plen (pr S a) 32) (lb := plen (pr S b) 32) (a := rv S (pl a)) (b := rv S (pl b)) (by omega) hz (plen (pr S a) 32).toNat (fun s hs => hroom ca cb hf s (by omega))
      have K2 : ∀ m : Int → Int, Sup m 64 → Red p m → G g mX9_compose 6 0 0 86 [(5, .int (iI (plen (pr S b) 32))), (4, .int (iI (plen (pr S a) 32))), (0, gr g 0), (1, .int (iI t)), (2, .int (iI a)), (3, .int (iI b))] [gr g 18, .int (iI t), gr g 0] (hp g sh (rput (rput S 14 m 64) 18 (cmpo p (pr S a) (pr S b) (plen (pr S a) 32) (plen (pr S a) 32).toNat) 64)) n 0 0 Q := by
        intro m m1 m2
        have A2 := AlgW_row (AlgW_row hW.2.1 (Or.inl rfl) m1 m2) (Or.inr (Or.inr rfl)) ho.1 ho.2
        obtain ⟨W1, s1', e1⟩ := PbW_alg hW (Same_put (Same_put Same_rf (by unfold AlgD; omega) (by unfold AlgD; omega)) (by unfold AlgD; omega) (by unfold AlgD; omega)) A2
        have r18 := Al18 W1.2.1
        have hE := PbE_bec W1 s1' e1 ct r18
        rw [rput_rv] at hE
        refine S_callV (pc := 86) (ci := 9) (d2 := 4) (mc2 := 0) (ms2 := 0) (As := [_, _]) dX9_compose_86 kX9_become lkX9_144 (by assumption) rfl rfl rfl (Nat.le_of_ble_eq_true rfl) ⟨by decide, by decide⟩ (by decide) ?_
        refine c_X9_become W1 ct r18 (Ne.symm (pl_ne (by decide))) ?_
        rw [rput_rv]
        show G _ _ _ _ _ _ _ _ _ _ _ _ _
        refine G_iret (pc := 89) dX9_compose_89 rfl (by decide) ?_
        exact h1 ct ca cb hf _ hE
      refine S_aload_n (pc := 65) dX9_compose_65 rfl ?_
      refine G_iload_n (pc := 66) dX9_compose_66 rfl ?_
      refine S_aload_n (pc := 67) dX9_compose_67 rfl ?_
      refine S_getR (pc := 68) dX9_compose_68 fX9_63 (by assumption) rfl (by assumption) ?_
      refine S_aload_n (pc := 71) dX9_compose_71 rfl ?_
      refine S_getR (pc := 72) dX9_compose_72 fX9_11 (by assumption) rfl (by assumption) ?_
      refine G_iload_n (pc := 75) dX9_compose_75 rfl ?_
      refine S_aald (pc := 76) dX9_compose_76 (by assumption) rfl (by omega) (f1 _ ca.1 ca.2) ?_
      refine S_aload_n (pc := 77) dX9_compose_77 rfl ?_
      refine S_getR (pc := 78) dX9_compose_78 fX9_11 (by assumption) rfl (by assumption) ?_
      refine G_iload_n (pc := 81) dX9_compose_81 rfl ?_
      refine S_aald (pc := 82) dX9_compose_82 (by assumption) rfl (by omega) (f1 _ cb.1 cb.2) ?_
      refine S_callV (pc := 83) (ci := 0) (d2 := 4) (mc2 := 0) (ms2 := 0) (As := [_, _]) dX9_compose_83 kX0_composed lkX9_193 (by assumption) rfl rfl rfl (Nat.le_of_ble_eq_true rfl) ⟨by decide, by decide⟩ (by decide) ?_
      refine c_X0_composed hW.2.1.1 rA rB (pl_ne (by decide)) (pl_ne (by decide)) (pl_ne (by decide)) (pl_ne (by decide)) (by rw [eA, eB]; exact hroom ca cb hf) (fun m m1 m2 => ?_)
      rw [eA]
      exact K2 m m1 m2
    refine G_iload_n (pc := 0) dX9_compose_0 rfl ?_
    refine G_iload_n (pc := 1) dX9_compose_1 rfl ?_
    refine G_iload_n (pc := 2) dX9_compose_2 rfl ?_
    refine G_callS (pc := 3) (d2 := 3) (mc2 := 0) (ms2 := 0) (As := [_, _, _]) dX9_compose_3 kX9_arePolys lkX9_132 rfl rfl (Nat.le_of_ble_eq_true rfl) ⟨by decide, by decide⟩ (by decide) ?_
    refine c_X9_arePolys (by omega) (fun _ => ?_) (fun z => absurd ⟨ct, ca, cb⟩ z)
    · show G _ _ _ _ _ _ _ _ _ _ _ _ _
      refine G_if_ne_t (pc := 6) 12 dX9_compose_6 rfl (by decide) (by decide) ?_
      refine S_aload_n (pc := 12) dX9_compose_12 rfl ?_
      refine S_getR (pc := 13) dX9_compose_13 fX9_11 (by assumption) rfl (by assumption) ?_
      refine G_iload_n (pc := 16) dX9_compose_16 rfl ?_
      refine S_aald (pc := 17) dX9_compose_17 (by assumption) rfl (by omega) (f1 _ ca.1 ca.2) ?_
      refine S_callV (pc := 18) (ci := 4) (d2 := 1) (mc2 := 0) (ms2 := 0) (As := []) dX9_compose_18 kX4_length lkX9_127 rA.1.1 rfl rfl rfl (Nat.le_of_ble_eq_true rfl) ⟨by decide, by decide⟩ (by decide) ?_
      refine c_X4_length rA.1 ?_
      rw [eA]
      show G _ _ _ _ _ _ _ _ _ _ _ _ _
      refine G_istore (pc := 21) (ls' := [(4, _), (0, _), (1, _), (2, _), (3, _)]) dX9_compose_21 (by decide) rfl ?_
      refine S_aload_n (pc := 23) dX9_compose_23 rfl ?_
      refine S_getR (pc := 24) dX9_compose_24 fX9_11 (by assumption) rfl (by assumption) ?_
      refine G_iload_n (pc := 27) dX9_compose_27 rfl ?_
      refine S_aald (pc := 28) dX9_compose_28 (by assumption) rfl (by omega) (f1 _ cb.1 cb.2) ?_
      refine S_callV (pc := 29) (ci := 4) (d2 := 1) (mc2 := 0) (ms2 := 0) (As := []) dX9_compose_29 kX4_length lkX9_127 rB.1.1 rfl rfl rfl (Nat.le_of_ble_eq_true rfl) ⟨by decide, by decide⟩ (by decide) ?_
      refine c_X4_length rB.1 ?_
      rw [eB]
      show G _ _ _ _ _ _ _ _ _ _ _ _ _
      refine G_istore (pc := 32) (ls' := [(5, _), (4, _), (0, _), (1, _), (2, _), (3, _)]) dX9_compose_32 (by decide) rfl ?_
      refine G_iload (pc := 34) dX9_compose_34 rfl ?_
      refine G_iconst (pc := 36) dX9_compose_36 ?_
      refine G_icmp_le (pc := 37) 65 dX9_compose_37 rfl (by omega) (fun c37 => ?_) (fun c37 => ?_)
      · skip
        exact Kf (fun h => by omega)
      · skip
        refine G_iload (pc := 40) dX9_compose_40 rfl ?_
        refine G_iconst (pc := 42) dX9_compose_42 ?_
        refine G_icmp_le (pc := 43) 65 dX9_compose_43 rfl (by omega) (fun c43 => ?_) (fun c43 => ?_)
        · skip
          exact Kf (fun h => by omega)
        · skip
          have hmm' := hmm (by omega) (by omega)
          refine G_iload (pc := 46) dX9_compose_46 rfl ?_
          refine G_iconst (pc := 48) dX9_compose_48 ?_
          refine G_isub (pc := 49) dX9_compose_49 ?_
          refine G_iload (pc := 50) dX9_compose_50 rfl ?_
          refine G_iconst (pc := 52) dX9_compose_52 ?_
          refine G_isub (pc := 53) dX9_compose_53 ?_
          refine G_imul (pc := 54) dX9_compose_54 ?_
          refine G_iconst (pc := 55) dX9_compose_55 ?_
          refine G_iadd (pc := 56) dX9_compose_56 ?_
          refine G_bipush (pc := 57) dX9_compose_57 rfl ?_
          refine G_icmp_le (pc := 59) 65 dX9_compose_59 rfl (by omega) (fun c59 => ?_) (fun c59 => ?_)
          · skip
            exact Kf (fun h => by omega)
          · skip
            refine G_bipush (pc := 62) dX9_compose_62 rfl ?_
            refine G_iret (pc := 64) dX9_compose_64 rfl (by decide) ?_
            exact h2 ct ca cb ⟨by omega, by omega, by omega⟩
  · skip
    refine G_iload_n (pc := 0) dX9_compose_0 rfl ?_
    refine G_iload_n (pc := 1) dX9_compose_1 rfl ?_
    refine G_iload_n (pc := 2) dX9_compose_2 rfl ?_
    refine G_callS (pc := 3) (d2 := 3) (mc2 := 0) (ms2 := 0) (As := [_, _, _]) dX9_compose_3 kX9_arePolys lkX9_132 rfl rfl (Nat.le_of_ble_eq_true rfl) ⟨by decide, by decide⟩ (by decide) ?_
    refine c_X9_arePolys (by omega) (fun z => absurd z c) (fun _ => ?_)
    · show G _ _ _ _ _ _ _ _ _ _ _ _ _
      refine G_if_ne_f (pc := 6) 12 dX9_compose_6 rfl (by decide) (by decide) ?_
      refine G_bipush (pc := 9) dX9_compose_9 rfl ?_
      refine G_iret (pc := 11) dX9_compose_11 rfl (by decide) ?_
      exact h0 c
set_option maxRecDepth 100000 in
set_option maxHeartbeats 4000000 in
theorem c_X9_move {g : GC} {p t a v : Int} {sh : SH} {S : SS} {n : Nat} {Q : Option Value → GA → Nat → Prop} (hW : PbW p sh S) (hr : (-2147483648 ≤ t ∧ t ≤ 2147483647) ∧ (-2147483648 ≤ a ∧ a ≤ 2147483647) ∧ (-2147483648 ≤ v ∧ v ≤ 2147483647)) (h0 : ¬ ((0 ≤ t ∧ t < 8) ∧ (0 ≤ a ∧ a < 8)) → Q (some (.int (iI (-2)))) (hp g sh S) n) (h1 : (0 ≤ t ∧ t < 8) → (0 ≤ a ∧ a < 8) → ∀ S' : SS, PbE p sh S t (pmove p (v % p) (pr S a) 32) S' → Q (some (.int (iI (plen (pmove p (v % p) (pr S a) 32) 32)))) (hp g sh S') n) : GCall g mX9_move 6 0 0 [gr g 0, .int (iI t), .int (iI a), .int (iI v)] (hp g sh S) n Q := by
  have hW' := hW
  obtain ⟨hK, hA, hMd, hPo⟩ := hW'
  obtain ⟨k0, q0, q1, q2, q3, q4, q7, q8, q9, q12, q13, q14, s1, s4, s9, s10, s11, f1, f2, f3⟩ := hK
  have hP := hA.1.1
  have hRs := hA.1.2.1
  have hpb := hP.bd
  have h12 := hRs.1
  have h13 := hA.1.2.2.1
  have h2s := hMd.1.1
  refine GCall.of (by decide) (Nat.le_of_ble_eq_true rfl) (ls := [(0, _), (1, _), (2, _), (3, _)]) rfl ?_
  have hv := Int.emod_nonneg v (show p ≠ 0 by omega)
  have hv2 := Int.emod_lt_of_pos v (show 0 < p by omega)
  have Kf : (0 ≤ t ∧ t < 8) → (0 ≤ a ∧ a < 8) → G g mX9_move 6 0 0 41 [(0, gr g 0), (1, .int (iI t)), (2, .int (iI a)), (3, .int (iI v))] [gr g 18, .int (iI t), gr g 0] (hp g sh (rput S 18 (pmove p (v % p) (pr S a) 32) 64)) n 0 0 Q := by
    intro ct ca
    have rA := hPo a ca.1 ca.2
    have ho := pmove_ok (p := p) (b := v % p) (by omega) rA.2.2.2.1 rA.2.2.2.2
    have A2 := AlgW_row hW.2.1 (Or.inr (Or.inr rfl)) (Sup_up ho.1 (by decide)) ho.2
    obtain ⟨W1, s1', e1⟩ := PbW_alg hW (Same_put Same_rf (by unfold AlgD; omega) (by unfold AlgD; omega)) A2
    have r18 := Al18 W1.2.1
    have hE := PbE_bec W1 s1' e1 ct r18
    rw [rput_rv, clip_len ho.1] at hE
    refine S_callV (pc := 41) (ci := 9) (d2 := 4) (mc2 := 0) (ms2 := 0) (As := [_, _]) dX9_move_41 kX9_become lkX9_144 (by assumption) rfl rfl rfl (Nat.le_of_ble_eq_true rfl) ⟨by decide, by decide⟩ (by decide) ?_
    refine c_X9_become W1 ct r18 (Ne.symm (pl_ne (by decide))) ?_
    rw [rput_rv, show clip 32 (pmove p (v % p) (pr S a) 32) = (pmove p (v % p) (pr S a) 32) from clip_len ho.1]
    show G _ _ _ _ _ _ _ _ _ _ _ _ _
    refine G_iret (pc := 44) dX9_move_44 rfl (by decide) ?_
    exact h1 ct ca _ hE
  refine G_iload_n (pc := 0) dX9_move_0 rfl ?_
  refine G_callS (pc := 1) (d2 := 2) (mc2 := 0) (ms2 := 0) (As := [_]) dX9_move_1 kX9_isPoly lkX9_107 rfl rfl (Nat.le_of_ble_eq_true rfl) ⟨by decide, by decide⟩ (by decide) ?_
  refine c_X9_isPoly (by omega) (fun w1 => ?_) (fun w1 => ?_)
  · show G _ _ _ _ _ _ _ _ _ _ _ _ _
    refine G_if_eq_f (pc := 4) 14 dX9_move_4 rfl (by decide) (by decide) ?_
    refine G_iload_n (pc := 7) dX9_move_7 rfl ?_
    refine G_callS (pc := 8) (d2 := 2) (mc2 := 0) (ms2 := 0) (As := [_]) dX9_move_8 kX9_isPoly lkX9_107 rfl rfl (Nat.le_of_ble_eq_true rfl) ⟨by decide, by decide⟩ (by decide) ?_
    refine c_X9_isPoly (by omega) (fun w8 => ?_) (fun w8 => ?_)
    · show G _ _ _ _ _ _ _ _ _ _ _ _ _
      refine G_if_ne_t (pc := 11) 17 dX9_move_11 rfl (by decide) (by decide) ?_
      refine S_aload_n (pc := 17) dX9_move_17 rfl ?_
      refine G_iload_n (pc := 18) dX9_move_18 rfl ?_
      refine S_aload_n (pc := 19) dX9_move_19 rfl ?_
      refine S_getR (pc := 20) dX9_move_20 fX9_63 (by assumption) rfl (by assumption) ?_
      refine S_aload_n (pc := 23) dX9_move_23 rfl ?_
      refine S_getR (pc := 24) dX9_move_24 fX9_11 (by assumption) rfl (by assumption) ?_
      refine G_iload_n (pc := 27) dX9_move_27 rfl ?_
      refine S_aald (pc := 28) dX9_move_28 (by assumption) rfl (by omega) (f1 _ w8.1 w8.2) ?_
      refine S_aload_n (pc := 29) dX9_move_29 rfl ?_
      refine S_getR (pc := 30) dX9_move_30 fX9_54 (by assumption) rfl (by assumption) ?_
      refine G_iload_n (pc := 33) dX9_move_33 rfl ?_
      refine G_i2l (pc := 34) dX9_move_34 (by omega) ?_
      refine S_callV (pc := 35) (ci := 3) (d2 := 1) (mc2 := 0) (ms2 := 0) (As := [_]) dX9_move_35 kX3_rest lkX9_119 (by assumption) rfl rfl rfl (Nat.le_of_ble_eq_true rfl) ⟨by decide, by decide⟩ (by decide) ?_
      refine c_X3_rest hRs hP (by omega) ?_
      show G _ _ _ _ _ _ _ _ _ _ _ _ _
      refine S_callV (pc := 38) (ci := 0) (d2 := 5) (mc2 := 0) (ms2 := 0) (As := [_, _]) dX9_move_38 kX0_moved lkX9_196 (by assumption) rfl rfl rfl (Nat.le_of_ble_eq_true rfl) ⟨by decide, by decide⟩ (by decide) ?_
      refine c_X0_moved hW.2.1.1 (hPo a w8.1 w8.2) (pl_ne (by decide)) (by omega) ?_
      show G _ _ _ _ _ _ _ _ _ _ _ _ _
      exact Kf w1 w8
    · show G _ _ _ _ _ _ _ _ _ _ _ _ _
      refine G_if_ne_f (pc := 11) 17 dX9_move_11 rfl (by decide) (by decide) ?_
      refine G_bipush (pc := 14) dX9_move_14 rfl ?_
      refine G_iret (pc := 16) dX9_move_16 rfl (by decide) ?_
      exact h0 (by omega)
  · show G _ _ _ _ _ _ _ _ _ _ _ _ _
    refine G_if_eq_t (pc := 4) 14 dX9_move_4 rfl (by decide) (by decide) ?_
    refine G_bipush (pc := 14) dX9_move_14 rfl ?_
    refine G_iret (pc := 16) dX9_move_16 rfl (by decide) ?_
    exact h0 (by omega)
set_option maxRecDepth 100000 in
set_option maxHeartbeats 4000000 in
theorem l_X9_order {g : GC} {p a v z : Int} {sh : SH} {S : SS} {n : Nat} {Q : Option Value → GA → Nat → Prop} {ys : Int → Int} (hr18 : Row p sh S 18 64) (hy : rv S 18 = ys) (hpp : p ≤ 7681) (hz : 0 ≤ z ∧ z < plen ys 64) (hzz : ys z ≠ 0) (hlow : ∀ j : Int, 0 ≤ j → j < z → ys j = 0) (hq : Q (some (.int (iI z))) (hp g sh S) n) : ∀ (m : Nat) (i : Int), i + m = z → 0 ≤ i → G g mX9_order 6 0 0 51 [(4, .int (iI i)), (3, gr g 18), (0, gr g 0), (1, .int (iI a)), (2, .int (iI v))] [] (hp g sh S) n 0 0 Q := by
  intro m
  have eL : S.1 18 1 = plen ys 64 := by rw [hr18.2.2.1, hy]
  have hb := plen_bd ys 64
  have h18 := hr18.1.1
  induction m with
  | zero =>
    intro i hi h0
    have e : i = z := by omega
    have hrd := hr18.2.2.2.2 z
    rw [hy] at hrd
    refine G_iload (pc := 51) dX9_order_51 rfl ?_
    refine S_aload_n (pc := 53) dX9_order_53 rfl ?_
    refine S_callV (pc := 54) (ci := 4) (d2 := 1) (mc2 := 0) (ms2 := 0) (As := []) dX9_order_54 kX4_length lkX9_127 (by assumption) rfl rfl rfl (Nat.le_of_ble_eq_true rfl) ⟨by decide, by decide⟩ (by decide) ?_
    refine c_X4_length hr18.1 ?_
    rw [eL]
    show G _ _ _ _ _ _ _ _ _ _ _ _ _
    refine G_icmp_ge_f (pc := 57) 75 dX9_order_57 rfl (by omega) (by omega) ?_
    refine S_aload_n (pc := 60) dX9_order_60 rfl ?_
    refine G_iload (pc := 61) dX9_order_61 rfl ?_
    refine S_callV (pc := 63) (ci := 4) (d2 := 1) (mc2 := 0) (ms2 := 0) (As := [_]) dX9_order_63 kX4_get lkX9_115 (by assumption) rfl rfl rfl (Nat.le_of_ble_eq_true rfl) ⟨by decide, by decide⟩ (by decide) ?_
    refine c_X4_get hr18 (by omega) ?_
    rw [hy, e]
    show G _ _ _ _ _ _ _ _ _ _ _ _ _
    refine G_if_ne_t (pc := 66) 75 dX9_order_66 rfl (by omega) hzz ?_
    refine G_iload (pc := 75) dX9_order_75 rfl ?_
    refine G_iret (pc := 77) dX9_order_77 rfl (by decide) ?_
    exact hq
  | succ m ih =>
    intro i hi h0
    have e1 : ys i = 0 := hlow i h0 (by omega)
    refine G_iload (pc := 51) dX9_order_51 rfl ?_
    refine S_aload_n (pc := 53) dX9_order_53 rfl ?_
    refine S_callV (pc := 54) (ci := 4) (d2 := 1) (mc2 := 0) (ms2 := 0) (As := []) dX9_order_54 kX4_length lkX9_127 (by assumption) rfl rfl rfl (Nat.le_of_ble_eq_true rfl) ⟨by decide, by decide⟩ (by decide) ?_
    refine c_X4_length hr18.1 ?_
    rw [eL]
    show G _ _ _ _ _ _ _ _ _ _ _ _ _
    refine G_icmp_ge_f (pc := 57) 75 dX9_order_57 rfl (by omega) (by omega) ?_
    refine S_aload_n (pc := 60) dX9_order_60 rfl ?_
    refine G_iload (pc := 61) dX9_order_61 rfl ?_
    refine S_callV (pc := 63) (ci := 4) (d2 := 1) (mc2 := 0) (ms2 := 0) (As := [_]) dX9_order_63 kX4_get lkX9_115 (by assumption) rfl rfl rfl (Nat.le_of_ble_eq_true rfl) ⟨by decide, by decide⟩ (by decide) ?_
    refine c_X4_get hr18 (by omega) ?_
    rw [hy, e1]
    show G _ _ _ _ _ _ _ _ _ _ _ _ _
    refine G_if_ne_f (pc := 66) 75 dX9_order_66 rfl (by omega) (by omega) ?_
    refine G_iinc (pc := 69) (ls' := [(4, _), (3, _), (0, _), (1, _), (2, _)]) dX9_order_69 rfl (by decide) rfl ?_
    refine G_goto (pc := 72) 51 dX9_order_72 rfl ?_
    exact ih (i + 1) (by omega) (by omega)
set_option maxRecDepth 100000 in
set_option maxHeartbeats 4000000 in
theorem c_X9_order {g : GC} {p a v : Int} {sh : SH} {S : SS} {n : Nat} {Q : Option Value → GA → Nat → Prop} (hW : PbW p sh S) (hr : (-2147483648 ≤ a ∧ a ≤ 2147483647) ∧ (-2147483648 ≤ v ∧ v ≤ 2147483647)) (h0 : ¬ (0 ≤ a ∧ a < 8) → Q (some (.int (iI (-2)))) (hp g sh S) n) (hz : (0 ≤ a ∧ a < 8) → plen (pr S a) 32 = 0 → Q (some (.int (iI (-3)))) (hp g sh S) n)
    (h1 : (0 ≤ a ∧ a < 8) → plen (pr S a) 32 ≠ 0 → ∃ z : Int, ((0 ≤ z ∧ z < plen (pmove p (v % p) (pr S a) 32) 64) ∧ (pmove p (v % p) (pr S a) 32) z ≠ 0 ∧ ∀ j : Int, 0 ≤ j → j < z → (pmove p (v % p) (pr S a) 32) j = 0) ∧ ∀ S' : SS, PbW p sh S' → Same D1 S S' → (∀ i : Int, 0 ≤ i → i < 8 → pr S' i = pr S i) → Q (some (.int (iI z))) (hp g sh S') n) : GCall g mX9_order 6 0 0 [gr g 0, .int (iI a), .int (iI v)] (hp g sh S) n Q := by
  have hW' := hW
  obtain ⟨hK, hA, hMd, hPo⟩ := hW'
  obtain ⟨k0, q0, q1, q2, q3, q4, q7, q8, q9, q12, q13, q14, s1, s4, s9, s10, s11, f1, f2, f3⟩ := hK
  have hP := hA.1.1
  have hRs := hA.1.2.1
  have hpb := hP.bd
  have h12 := hRs.1
  have h13 := hA.1.2.2.1
  have h2s := hMd.1.1
  refine GCall.of (by decide) (Nat.le_of_ble_eq_true rfl) (ls := [(0, _), (1, _), (2, _)]) rfl ?_
  have hv := Int.emod_nonneg v (show p ≠ 0 by omega)
  have hv2 := Int.emod_lt_of_pos v (show 0 < p by omega)
  have eL : 0 ≤ a ∧ a < 8 → S.1 (pl a) 1 = plen (pr S a) 32 := fun z => (hPo a z.1 z.2).2.2.1
  have hbL := plen_bd (pr S a) 32
  have Kf : (0 ≤ a ∧ a < 8) → plen (pr S a) 32 ≠ 0 → G g mX9_order 6 0 0 51 [(4, .int (iI 0)), (3, gr g 18), (0, gr g 0), (1, .int (iI a)), (2, .int (iI v))] [] (hp g sh (rput S 18 (pmove p (v % p) (pr S a) 32) 64)) n 0 0 Q := by
    intro ca cz
    have rA := hPo a ca.1 ca.2
    have ho := pmove_ok (p := p) (b := v % p) (by omega) rA.2.2.2.1 rA.2.2.2.2
    have A2 := AlgW_row hW.2.1 (Or.inr (Or.inr rfl)) (Sup_up ho.1 (by decide)) ho.2
    obtain ⟨W1, s1', e1⟩ := PbW_alg hW (Same_put Same_rf (by unfold AlgD; omega) (by unfold AlgD; omega)) A2
    obtain ⟨z, ⟨z1, z2, z3⟩, zq⟩ := h1 ca cz
    exact l_X9_order (Al18 W1.2.1) rput_rv hpb.2 z1 z2 z3 (zq _ W1 s1' e1) z.toNat 0 (by omega) (by omega)
  refine G_iload_n (pc := 0) dX9_order_0 rfl ?_
  refine G_callS (pc := 1) (d2 := 2) (mc2 := 0) (ms2 := 0) (As := [_]) dX9_order_1 kX9_isPoly lkX9_107 rfl rfl (Nat.le_of_ble_eq_true rfl) ⟨by decide, by decide⟩ (by decide) ?_
  refine c_X9_isPoly (by omega) (fun w1 => ?_) (fun w1 => ?_)
  · show G _ _ _ _ _ _ _ _ _ _ _ _ _
    refine G_if_ne_t (pc := 4) 10 dX9_order_4 rfl (by decide) (by decide) ?_
    refine S_aload_n (pc := 10) dX9_order_10 rfl ?_
    refine S_getR (pc := 11) dX9_order_11 fX9_11 (by assumption) rfl (by assumption) ?_
    refine G_iload_n (pc := 14) dX9_order_14 rfl ?_
    refine S_aald (pc := 15) dX9_order_15 (by assumption) rfl (by omega) (f1 _ w1.1 w1.2) ?_
    refine S_callV (pc := 16) (ci := 4) (d2 := 1) (mc2 := 0) (ms2 := 0) (As := []) dX9_order_16 kX4_length lkX9_127 (hPo _ w1.1 w1.2).1.1 rfl rfl rfl (Nat.le_of_ble_eq_true rfl) ⟨by decide, by decide⟩ (by decide) ?_
    refine c_X4_length (hPo a w1.1 w1.2).1 ?_
    rw [eL w1]
    show G _ _ _ _ _ _ _ _ _ _ _ _ _
    refine G_if_ne (pc := 19) 25 dX9_order_19 rfl (by omega) (fun c19 => ?_) (fun c19 => ?_)
    · skip
      refine S_aload_n (pc := 25) dX9_order_25 rfl ?_
      refine S_getR (pc := 26) dX9_order_26 fX9_63 (by assumption) rfl (by assumption) ?_
      refine S_aload_n (pc := 29) dX9_order_29 rfl ?_
      refine S_getR (pc := 30) dX9_order_30 fX9_11 (by assumption) rfl (by assumption) ?_
      refine G_iload_n (pc := 33) dX9_order_33 rfl ?_
      refine S_aald (pc := 34) dX9_order_34 (by assumption) rfl (by omega) (f1 _ w1.1 w1.2) ?_
      refine S_aload_n (pc := 35) dX9_order_35 rfl ?_
      refine S_getR (pc := 36) dX9_order_36 fX9_54 (by assumption) rfl (by assumption) ?_
      refine G_iload_n (pc := 39) dX9_order_39 rfl ?_
      refine G_i2l (pc := 40) dX9_order_40 (by omega) ?_
      refine S_callV (pc := 41) (ci := 3) (d2 := 1) (mc2 := 0) (ms2 := 0) (As := [_]) dX9_order_41 kX3_rest lkX9_119 (by assumption) rfl rfl rfl (Nat.le_of_ble_eq_true rfl) ⟨by decide, by decide⟩ (by decide) ?_
      refine c_X3_rest hRs hP (by omega) ?_
      show G _ _ _ _ _ _ _ _ _ _ _ _ _
      refine S_callV (pc := 44) (ci := 0) (d2 := 5) (mc2 := 0) (ms2 := 0) (As := [_, _]) dX9_order_44 kX0_moved lkX9_196 (by assumption) rfl rfl rfl (Nat.le_of_ble_eq_true rfl) ⟨by decide, by decide⟩ (by decide) ?_
      refine c_X0_moved hW.2.1.1 (hPo a w1.1 w1.2) (pl_ne (by decide)) (by omega) ?_
      show G _ _ _ _ _ _ _ _ _ _ _ _ _
      refine S_astore_n (pc := 47) (ls' := [(3, _), (0, _), (1, _), (2, _)]) dX9_order_47 (by decide) rfl ?_
      refine G_iconst (pc := 48) dX9_order_48 ?_
      refine G_istore (pc := 49) (ls' := [(4, _), (3, _), (0, _), (1, _), (2, _)]) dX9_order_49 (by decide) rfl ?_
      exact Kf w1 (by omega)
    · skip
      refine G_bipush (pc := 22) dX9_order_22 rfl ?_
      refine G_iret (pc := 24) dX9_order_24 rfl (by decide) ?_
      first | exact h0 (by omega) | exact hz w1 (by omega)
  · show G _ _ _ _ _ _ _ _ _ _ _ _ _
    refine G_if_ne_f (pc := 4) 10 dX9_order_4 rfl (by decide) (by decide) ?_
    refine G_bipush (pc := 7) dX9_order_7 rfl ?_
    refine G_iret (pc := 9) dX9_order_9 rfl (by decide) ?_
    first | exact h0 (by omega) | exact hz w1 (by omega)
set_option maxRecDepth 100000 in
set_option maxHeartbeats 4000000 in
theorem c_X9_root {g : GC} {p a i : Int} {sh : SH} {S : SS} {n : Nat} {Q : Option Value → GA → Nat → Prop} (hW : PbW p sh S) (hr : (-2147483648 ≤ a ∧ a ≤ 2147483647) ∧ (-2147483648 ≤ i ∧ i ≤ 2147483647)) (h0 : ¬ (0 ≤ a ∧ a < 8) → Q (some (.int (iI (-2)))) (hp g sh S) n) (hz : (0 ≤ a ∧ a < 8) → plen (pr S a) 32 = 0 → Q (some (.int (iI (-3)))) (hp g sh S) n)
    (hroom : (0 ≤ a ∧ a < 8) → ∀ k : Nat, (∀ s : Nat, s ≤ k → 0 < plen (eu p (pr S a) (skx p (pr S a)) s).2.1 64) → k ≤ 62 ∧ plen (pdiv p (eu p (pr S a) (skx p (pr S a)) k).1 (eu p (pr S a) (skx p (pr S a)) k).2.1 (plen (eu p (pr S a) (skx p (pr S a)) k).1 64) (plen (eu p (pr S a) (skx p (pr S a)) k).2.1 64)).1 64 + plen (eu p (pr S a) (skx p (pr S a)) k).2.2.2 64 ≤ 65)
    (h1 : (0 ≤ a ∧ a < 8) → plen (pr S a) 32 ≠ 0 → ∀ (k : Nat) (S' : SS), (∀ s : Nat, s < k → 0 < plen (eu p (pr S a) (skx p (pr S a)) s).2.1 64) → plen (eu p (pr S a) (skx p (pr S a)) k).2.1 64 ≤ 0 → PbW p sh S' → Same D1 S S' → (∀ i : Int, 0 ≤ i → i < 8 → pr S' i = pr S i) → (i = -1 → Q (some (.int (iI (plen (eu p (pr S a) (skx p (pr S a)) k).1 64 - 1)))) (hp g sh S') n) ∧ (i ≠ -1 → (0 ≤ i ∧ i < plen (eu p (pr S a) (skx p (pr S a)) k).1 64 - 1) → Q (some (.int (iI (srt p p.toNat 0 i (eu p (pr S a) (skx p (pr S a)) k).1)))) (hp g sh S') n) ∧ (i ≠ -1 → ¬ (0 ≤ i ∧ i < plen (eu p (pr S a) (skx p (pr S a)) k).1 64 - 1) → Q (some (.int (iI (-1)))) (hp g sh S') n)) : GCall g mX9_root 7 0 0 [gr g 0, .int (iI a), .int (iI i)] (hp g sh S) n Q := by
  have hW' := hW
  obtain ⟨hK, hA, hMd, hPo⟩ := hW'
  obtain ⟨k0, q0, q1, q2, q3, q4, q7, q8, q9, q12, q13, q14, s1, s4, s9, s10, s11, f1, f2, f3⟩ := hK
  have hP := hA.1.1
  have hRs := hA.1.2.1
  have hpb := hP.bd
  have h12 := hRs.1
  have h13 := hA.1.2.2.1
  have h2s := hMd.1.1
  refine GCall.of (by decide) (Nat.le_of_ble_eq_true rfl) (ls := [(0, _), (1, _), (2, _)]) rfl ?_
  have eL : 0 ≤ a ∧ a < 8 → S.1 (pl a) 1 = plen (pr S a) 32 := fun z => (hPo a z.1 z.2).2.2.1
  have hbL := plen_bd (pr S a) 32
  have Kf : (0 ≤ a ∧ a < 8) → plen (pr S a) 32 ≠ 0 → ∀ (k : Nat) (S1 : SS), AlgW p sh S1 → Same AlgD S S1 → (∀ s : Nat, s < k → 0 < plen (eu p (pr S a) (skx p (pr S a)) s).2.1 64) → plen (eu p (pr S a) (skx p (pr S a)) k).2.1 64 ≤ 0 → rv S1 18 = (eu p (pr S a) (skx p (pr S a)) k).1 → G g mX9_root 7 0 0 39 [(3, .int (iI (plen (eu p (pr S a) (skx p (pr S a)) k).1 64 - 1))), (0, gr g 0), (1, .int (iI a)), (2, .int (iI i))] [] (hp g sh S1) n 0 0 Q := by
    intro ca cz k S1 z1 z2 z3 z4 z5
    obtain ⟨W1, s1', e1⟩ := PbW_alg hW z2 z1
    have hbk := plen_bd (eu p (pr S a) (skx p (pr S a)) k).1 64
    have hh := h1 ca cz k S1 z3 z4 W1 s1' e1
    have u1 : S1.2.2 0 1 = some 13 := W1.1.2.2.1
    have Kr : i ≠ -1 → (0 ≤ i ∧ i < plen (eu p (pr S a) (skx p (pr S a)) k).1 64 - 1) → ∀ S2 : SS, AlgW p sh S2 → Same AlgD S1 S2 → Q (some (.int (iI (srt p p.toNat 0 i (rv S1 18))))) (hp g sh S2) n := by
      intro ci cw S2 y1 y2
      obtain ⟨W2, s2', e2⟩ := PbW_alg W1 y2 y1
      rw [z5]
      exact (h1 ca cz k S2 z3 z4 W2 (Same_tr s1' s2') (fun j x y => (e2 j x y).trans (e1 j x y))).2.1 ci cw
    refine G_iload_n (pc := 39) dX9_root_39 rfl ?_
    refine G_iconst (pc := 40) dX9_root_40 ?_
    refine G_icmp_ne (pc := 41) 46 dX9_root_41 rfl (by omega) (fun c41 => ?_) (fun c41 => ?_)
    · skip
      refine G_iload_n (pc := 46) dX9_root_46 rfl ?_
      refine G_iload_n (pc := 47) dX9_root_47 rfl ?_
      refine G_callS (pc := 48) (d2 := 1) (mc2 := 0) (ms2 := 0) (As := [_, _]) dX9_root_48 kX9_isWithin lkX9_111 rfl rfl (Nat.le_of_ble_eq_true rfl) ⟨by decide, by decide⟩ (by decide) ?_
      refine c_X9_isWithin (by omega) (fun w48 => ?_) (fun w48 => ?_)
      · show G _ _ _ _ _ _ _ _ _ _ _ _ _
        refine G_if_eq_f (pc := 51) 65 dX9_root_51 rfl (by decide) (by decide) ?_
        refine S_aload_n (pc := 54) dX9_root_54 rfl ?_
        refine S_getR (pc := 55) dX9_root_55 fX9_63 (by assumption) rfl (by assumption) ?_
        refine G_iload_n (pc := 58) dX9_root_58 rfl ?_
        refine S_callV (pc := 59) (ci := 0) (d2 := 5) (mc2 := 0) (ms2 := 0) (As := [_]) dX9_root_59 kX0_soughtRoot lkX9_204 (by assumption) rfl rfl rfl (Nat.le_of_ble_eq_true rfl) ⟨by decide, by decide⟩ (by decide) ?_
        refine c_X0_soughtRoot z1 (by omega) (fun S2 y1 y2 => ?_)
        · show G _ _ _ _ _ _ _ _ _ _ _ _ _
          refine G_goto (pc := 62) 66 dX9_root_62 rfl ?_
          refine G_iret (pc := 66) dX9_root_66 rfl (by decide) ?_
          first | exact hh.1 (by omega) | exact Kr (by omega) w48 S2 y1 y2 | exact hh.2.2 (by omega) w48
      · show G _ _ _ _ _ _ _ _ _ _ _ _ _
        refine G_if_eq_t (pc := 51) 65 dX9_root_51 rfl (by decide) (by decide) ?_
        refine G_iconst (pc := 65) dX9_root_65 ?_
        refine G_iret (pc := 66) dX9_root_66 rfl (by decide) ?_
        first | exact hh.1 (by omega) | exact Kr (by omega) w48 S2 y1 y2 | exact hh.2.2 (by omega) w48
    · skip
      refine G_iload_n (pc := 44) dX9_root_44 rfl ?_
      refine G_iret (pc := 45) dX9_root_45 rfl (by decide) ?_
      first | exact hh.1 (by omega) | exact Kr (by omega) w48 S2 y1 y2 | exact hh.2.2 (by omega) w48
  refine G_iload_n (pc := 0) dX9_root_0 rfl ?_
  refine G_callS (pc := 1) (d2 := 2) (mc2 := 0) (ms2 := 0) (As := [_]) dX9_root_1 kX9_isPoly lkX9_107 rfl rfl (Nat.le_of_ble_eq_true rfl) ⟨by decide, by decide⟩ (by decide) ?_
  refine c_X9_isPoly (by omega) (fun w1 => ?_) (fun w1 => ?_)
  · show G _ _ _ _ _ _ _ _ _ _ _ _ _
    refine G_if_ne_t (pc := 4) 10 dX9_root_4 rfl (by decide) (by decide) ?_
    refine S_aload_n (pc := 10) dX9_root_10 rfl ?_
    refine S_getR (pc := 11) dX9_root_11 fX9_11 (by assumption) rfl (by assumption) ?_
    refine G_iload_n (pc := 14) dX9_root_14 rfl ?_
    refine S_aald (pc := 15) dX9_root_15 (by assumption) rfl (by omega) (f1 _ w1.1 w1.2) ?_
    refine S_callV (pc := 16) (ci := 4) (d2 := 1) (mc2 := 0) (ms2 := 0) (As := []) dX9_root_16 kX4_length lkX9_127 (hPo _ w1.1 w1.2).1.1 rfl rfl rfl (Nat.le_of_ble_eq_true rfl) ⟨by decide, by decide⟩ (by decide) ?_
    refine c_X4_length (hPo a w1.1 w1.2).1 ?_
    rw [eL w1]
    show G _ _ _ _ _ _ _ _ _ _ _ _ _
    refine G_if_ne (pc := 19) 25 dX9_root_19 rfl (by omega) (fun c19 => ?_) (fun c19 => ?_)
    · skip
      refine S_aload_n (pc := 25) dX9_root_25 rfl ?_
      refine S_getR (pc := 26) dX9_root_26 fX9_63 (by assumption) rfl (by assumption) ?_
      refine S_aload_n (pc := 29) dX9_root_29 rfl ?_
      refine S_getR (pc := 30) dX9_root_30 fX9_11 (by assumption) rfl (by assumption) ?_
      refine G_iload_n (pc := 33) dX9_root_33 rfl ?_
      refine S_aald (pc := 34) dX9_root_34 (by assumption) rfl (by omega) (f1 _ w1.1 w1.2) ?_
      refine S_callV (pc := 35) (ci := 0) (d2 := 6) (mc2 := 0) (ms2 := 0) (As := [_]) dX9_root_35 kX0_seekRoots lkX9_200 (by assumption) rfl rfl rfl (Nat.le_of_ble_eq_true rfl) ⟨by decide, by decide⟩ (by decide) ?_
      refine c_X0_seekRoots hW.2.1 (hPo a w1.1 w1.2) (by decide) pl_alg (by rw [plen_more (hPo a w1.1 w1.2).2.2.2.1 (by decide)]; exact (show 0 < plen (pr S a) 32 by omega)) (hroom w1) (fun k S1 z1 z2 z3 z4 z5 => ?_)
      · show G _ _ _ _ _ _ _ _ _ _ _ _ _
        refine G_istore_n (pc := 38) (ls' := [(3, _), (0, _), (1, _), (2, _)]) dX9_root_38 (by decide) rfl ?_
        exact Kf w1 (by omega) k S1 z1 z2 z3 z4 z5
    · skip
      refine G_bipush (pc := 22) dX9_root_22 rfl ?_
      refine G_iret (pc := 24) dX9_root_24 rfl (by decide) ?_
      first | exact h0 (by omega) | exact hz w1 (by omega)
  · show G _ _ _ _ _ _ _ _ _ _ _ _ _
    refine G_if_ne_f (pc := 4) 10 dX9_root_4 rfl (by decide) (by decide) ?_
    refine G_bipush (pc := 7) dX9_root_7 rfl ?_
    refine G_iret (pc := 9) dX9_root_9 rfl (by decide) ?_
    first | exact h0 (by omega) | exact hz w1 (by omega)
