/-! PolyBench: way, force, count, sheets -/
set_option maxRecDepth 100000 in
set_option maxHeartbeats 4000000 in
theorem c_X9_way {g : GC} {p w k c : Int} {kd cu : Int → Int} {sh : SH} {S : SS} {n : Nat} {Q : Option Value → GA → Nat → Prop} (hW : PbW p sh S) (hV : VwW sh S w kd cu) (hn : 113 ≤ n) (hF : Fr S n) (hr : (-2147483648 ≤ k ∧ k ≤ 2147483647) ∧ (-2147483648 ≤ c ∧ c ≤ 2147483647)) (h0 : ¬ ((0 ≤ k ∧ k ≤ 5) ∧ (1 ≤ c ∧ c ≤ 16)) → Q (some (.int (iI (-2)))) (hp g sh S) n) (h1 : (0 ≤ k ∧ k ≤ 5) → (1 ≤ c ∧ c ≤ 16) → w = 8 → Q (some (.int (iI (-4)))) (hp g sh S) n)
    (h2 : (0 ≤ k ∧ k ≤ 5) → (1 ≤ c ∧ c ≤ 16) → w < 8 → Q (some (.int (iI w))) (hp g (sup (sup sh n (.inl 8)) (n + 1) (.inr (1, 33))) (setF (setP (putA (wyT S n k c) (n + 1) (wtb k c 32)) 4 w (some n)) 0 5 (w + 1))) (n + 2)) : GCall g mX9_way 5 2 36 [gr g 0, .int (iI k), .int (iI c)] (hp g sh S) n Q := by
  have hW' := hW
  obtain ⟨hK, hA, hMd, hPo⟩ := hW'
  obtain ⟨k0, q0, q1, q2, q3, q4, q7, q8, q9, q12, q13, q14, s1, s4, s9, s10, s11, f1, f2, f3⟩ := hK
  have hP := hA.1.1
  have hRs := hA.1.2.1
  have hpb := hP.bd
  have h12 := hRs.1
  have h13 := hA.1.2.2.1
  have h2s := hMd.1.1
  obtain ⟨v5, vb, vw⟩ := hV
  refine GCall.of (by decide) (Nat.le_of_ble_eq_true rfl) (ls := [(0, _), (1, _), (2, _)]) rfl ?_
  have e5 : (putA (wyT S n k c) (n + 1) (wtb k c 32)).1 0 5 = w := ((setF_ne (by omega)).trans (setF_ne (by omega))).trans v5
  have hs1 : sup sh n (.inl 8) n = some (.inl 8) := sup_at
  have hF1 : Fr S (n + 1) := Fr_le hF (by omega)
  have s0' : (sup (sup sh n (.inl 8)) (n + 1) (.inr (1, 33))) 0 = some (.inl 9) := (sup_ne (by omega)).trans ((sup_ne (by omega)).trans k0)
  have s4' : (sup (sup sh n (.inl 8)) (n + 1) (.inr (1, 33))) 4 = some (.inr (7, 8)) := (sup_ne (by omega)).trans ((sup_ne (by omega)).trans s4)
  have sn' : (sup (sup sh n (.inl 8)) (n + 1) (.inr (1, 33))) n = some (.inl 8) := (sup_ne (by omega)).trans sup_at
  have s0'' : sup sh n (.inl 8) 0 = some (.inl 9) := (sup_ne (by omega)).trans k0
  have Kf : (0 ≤ k ∧ k ≤ 5) → (1 ≤ c ∧ c ≤ 16) → w < 8 → G g mX9_way 5 2 36 52 [(0, gr g 0), (1, .int (iI k)), (2, .int (iI c))] [gr g n, .int (iI w), gr g 4] (hp g (sup (sup sh n (.inl 8)) (n + 1) (.inr (1, 33))) (putA (wyT S n k c) (n + 1) (wtb k c 32))) (n + 2) 2 36 Q := by
    intro z1 z2 z3
    have hq := h2 z1 z2 z3
    have e5b : (setP (putA (wyT S n k c) (n + 1) (wtb k c 32)) 4 w (some n)).1 0 5 = w := e5
    have e5c : (setF (setP (putA (wyT S n k c) (n + 1) (wtb k c 32)) 4 w (some n)) 0 5 (w + 1)).1 0 5 = w + 1 := setF_at
    refine S_aast (pc := 52) dX9_way_52 (by assumption) rfl (by assumption) rfl (by omega) ?_
    refine S_aload_n (pc := 53) dX9_way_53 rfl ?_
    refine G_dup (pc := 54) dX9_way_54 rfl ?_
    refine S_getI (pc := 55) dX9_way_55 fX9_148 (by assumption) rfl ?_
    rw [e5b]
    refine G_iconst (pc := 58) dX9_way_58 ?_
    refine G_iadd (pc := 59) dX9_way_59 ?_
    refine S_putI (pc := 60) dX9_way_60 fX9_148 (by assumption) rfl ⟨rfl, rfl⟩ ?_
    refine S_aload_n (pc := 63) dX9_way_63 rfl ?_
    refine S_getI (pc := 64) dX9_way_64 fX9_148 (by assumption) rfl ?_
    rw [e5c]
    refine G_iconst (pc := 67) dX9_way_67 ?_
    refine G_isub (pc := 68) dX9_way_68 ?_
    refine G_iret (pc := 69) dX9_way_69 rfl (by decide) ?_
    rw [show w + 1 - 1 = w by omega]
    exact hq
  refine G_iload_n (pc := 0) dX9_way_0 rfl ?_
  refine G_bipush (pc := 1) dX9_way_1 rfl ?_
  refine G_callS (pc := 3) (d2 := 1) (mc2 := 0) (ms2 := 0) (As := [_, _]) dX9_way_3 kX9_isWithin lkX9_111 rfl rfl (Nat.le_of_ble_eq_true rfl) ⟨by decide, by decide⟩ (by decide) ?_
  refine c_X9_isWithin (by omega) (fun w3 => ?_) (fun w3 => ?_)
  · show G _ _ _ _ _ _ _ _ _ _ _ _ _
    refine G_if_eq_f (pc := 6) 20 dX9_way_6 rfl (by decide) (by decide) ?_
    refine G_iload_n (pc := 9) dX9_way_9 rfl ?_
    refine G_iconst (pc := 10) dX9_way_10 ?_
    refine G_icmp_lt (pc := 11) 20 dX9_way_11 rfl (by omega) (fun c11 => ?_) (fun c11 => ?_)
    · skip
      refine G_bipush (pc := 20) dX9_way_20 rfl ?_
      refine G_iret (pc := 22) dX9_way_22 rfl (by decide) ?_
      first | exact h0 (by omega) | exact h1 (by omega) (by omega) (by omega)
    · skip
      refine G_iload_n (pc := 14) dX9_way_14 rfl ?_
      refine G_bipush (pc := 15) dX9_way_15 rfl ?_
      refine G_icmp_le (pc := 17) 23 dX9_way_17 rfl (by omega) (fun c17 => ?_) (fun c17 => ?_)
      · skip
        refine S_aload_n (pc := 23) dX9_way_23 rfl ?_
        refine S_getI (pc := 24) dX9_way_24 fX9_148 (by assumption) rfl ?_
        rw [v5]
        refine G_bipush (pc := 27) dX9_way_27 rfl ?_
        refine G_icmp_lt (pc := 29) 35 dX9_way_29 rfl (by omega) (fun c29 => ?_) (fun c29 => ?_)
        · skip
          refine S_aload_n (pc := 35) dX9_way_35 rfl ?_
          refine S_getR (pc := 36) dX9_way_36 fX9_24 (by assumption) rfl (by assumption) ?_
          refine S_aload_n (pc := 39) dX9_way_39 rfl ?_
          refine S_getI (pc := 40) dX9_way_40 fX9_148 (by assumption) rfl ?_
          rw [v5]
          refine S_new (pc := 43) (ci := 8) dX9_way_43 gcX8 clX9_22 inX8 niX8 (nf_X8 hF) (by decide) ?_
          refine G_dup (pc := 46) dX9_way_46 rfl ?_
          refine G_iload_n (pc := 47) dX9_way_47 rfl ?_
          refine G_iload_n (pc := 48) dX9_way_48 rfl ?_
          refine G_callI (pc := 49) (d2 := 4) (mc2 := 1) (ms2 := 33) (As := [_, _]) dX9_way_49 kX8_init lkX9_151 rfl rfl (Nat.le_of_ble_eq_true rfl) ⟨by decide, by decide⟩ (by decide) ?_
          refine c_X8_init hs1 hF1 (by omega) (by omega) ?_
          show G _ _ _ _ _ _ _ _ _ _ _ _ _
          exact Kf (by omega) (by omega) (by omega)
        · skip
          refine G_bipush (pc := 32) dX9_way_32 rfl ?_
          refine G_iret (pc := 34) dX9_way_34 rfl (by decide) ?_
          first | exact h0 (by omega) | exact h1 (by omega) (by omega) (by omega)
      · skip
        refine G_bipush (pc := 20) dX9_way_20 rfl ?_
        refine G_iret (pc := 22) dX9_way_22 rfl (by decide) ?_
        first | exact h0 (by omega) | exact h1 (by omega) (by omega) (by omega)
  · show G _ _ _ _ _ _ _ _ _ _ _ _ _
    refine G_if_eq_t (pc := 6) 20 dX9_way_6 rfl (by decide) (by decide) ?_
    refine G_bipush (pc := 20) dX9_way_20 rfl ?_
    refine G_iret (pc := 22) dX9_way_22 rfl (by decide) ?_
    first | exact h0 (by omega) | exact h1 (by omega) (by omega) (by omega)
set_option maxRecDepth 100000 in
set_option maxHeartbeats 4000000 in
theorem c_X9_force {g : GC} {p tc ru t : Int} {sh : SH} {S : SS} {n : Nat} {Q : Option Value → GA → Nat → Prop} (hW : PbW p sh S) (etc : S.1 0 10 = tc) (eru : S.1 0 11 = ru) (htc : 0 ≤ tc ∧ tc ≤ 6) (hr : -2147483648 ≤ t ∧ t ≤ 2147483647) (h0 : ¬ (0 ≤ t ∧ t < tc) → Q (some (.int (iI (-2)))) (hp g sh S) n) (h1 : (0 ≤ t ∧ t < tc) → Q (some (.int (iI ru))) (hp g sh (setF S 0 11 t)) n) : GCall g mX9_force 2 0 0 [gr g 0, .int (iI t)] (hp g sh S) n Q := by
  have hW' := hW
  obtain ⟨hK, hA, hMd, hPo⟩ := hW'
  obtain ⟨k0, q0, q1, q2, q3, q4, q7, q8, q9, q12, q13, q14, s1, s4, s9, s10, s11, f1, f2, f3⟩ := hK
  have hP := hA.1.1
  have hRs := hA.1.2.1
  have hpb := hP.bd
  have h12 := hRs.1
  have h13 := hA.1.2.2.1
  have h2s := hMd.1.1
  refine GCall.of (by decide) (Nat.le_of_ble_eq_true rfl) (ls := [(0, _), (1, _)]) rfl ?_
  refine G_iload_n (pc := 0) dX9_force_0 rfl ?_
  refine S_aload_n (pc := 1) dX9_force_1 rfl ?_
  refine S_getI (pc := 2) dX9_force_2 fX9_103 (by assumption) rfl ?_
  rw [etc]
  refine G_callS (pc := 5) (d2 := 1) (mc2 := 0) (ms2 := 0) (As := [_, _]) dX9_force_5 kX9_isWithin lkX9_111 rfl rfl (Nat.le_of_ble_eq_true rfl) ⟨by decide, by decide⟩ (by decide) ?_
  refine c_X9_isWithin (by omega) (fun w5 => ?_) (fun w5 => ?_)
  · show G _ _ _ _ _ _ _ _ _ _ _ _ _
    refine G_if_ne_t (pc := 8) 14 dX9_force_8 rfl (by decide) (by decide) ?_
    refine S_aload_n (pc := 14) dX9_force_14 rfl ?_
    refine S_getI (pc := 15) dX9_force_15 fX9_175 (by assumption) rfl ?_
    rw [eru]
    refine G_istore_n (pc := 18) (ls' := [(2, _), (0, _), (1, _)]) dX9_force_18 (by decide) rfl ?_
    refine S_aload_n (pc := 19) dX9_force_19 rfl ?_
    refine G_iload_n (pc := 20) dX9_force_20 rfl ?_
    refine S_putI (pc := 21) dX9_force_21 fX9_175 (by assumption) rfl ⟨rfl, rfl⟩ ?_
    refine G_iload_n (pc := 24) dX9_force_24 rfl ?_
    refine G_iret (pc := 25) dX9_force_25 rfl (by decide) ?_
    first | exact h0 w5 | exact h1 w5
  · show G _ _ _ _ _ _ _ _ _ _ _ _ _
    refine G_if_ne_f (pc := 8) 14 dX9_force_8 rfl (by decide) (by decide) ?_
    refine G_bipush (pc := 11) dX9_force_11 rfl ?_
    refine G_iret (pc := 13) dX9_force_13 rfl (by decide) ?_
    first | exact h0 w5 | exact h1 w5
set_option maxRecDepth 100000 in
set_option maxHeartbeats 4000000 in
theorem c_X9_count {g : GC} {p k m N : Int} {sh : SH} {S : SS} {n : Nat} {Q : Option Value → GA → Nat → Prop} (hW : PbW p sh S) (hL : PlW p sh S m) (hT : TaW sh S N) (hk : -2147483648 ≤ k ∧ k ≤ 2147483647)
    (g0 : k = 0 → Q (some (.int (iI p))) (hp g sh S) n)
    (g1 : k = 1 → Q (some (.int (iI (S.1 0 5)))) (hp g sh S) n)
    (g2 : k = 2 → Q (some (.int (iI m))) (hp g sh S) n)
    (g3 : k = 3 → Q (some (.int (iI (S.1 0 10)))) (hp g sh S) n)
    (g4 : k = 4 → Q (some (.int (iI N))) (hp g sh S) n)
    (g5 : k = 5 → Q (some (.int (iI (S.1 0 11)))) (hp g sh S) n)
    (g6 : ¬ (0 ≤ k ∧ k ≤ 5) → Q (some (.int (iI (-2)))) (hp g sh S) n) : GCall g mX9_count 2 0 0 [gr g 0, .int (iI k)] (hp g sh S) n Q := by
  have hW' := hW
  obtain ⟨hK, hA, hMd, hPo⟩ := hW'
  obtain ⟨k0, q0, q1, q2, q3, q4, q7, q8, q9, q12, q13, q14, s1, s4, s9, s10, s11, f1, f2, f3⟩ := hK
  have hP := hA.1.1
  have hRs := hA.1.2.1
  have hpb := hP.bd
  have h12 := hRs.1
  have h13 := hA.1.2.2.1
  have h2s := hMd.1.1
  have hL' := hL
  obtain ⟨h30, -, -, -, -, -, -, -, -, hm, hmb, r31, r32, R33, R35⟩ := hL'
  have h5 := hT.1
  refine GCall.of (by decide) (Nat.le_of_ble_eq_true rfl) (ls := [(0, _), (1, _)]) rfl ?_
  have hc : k = 0 ∨ k = 1 ∨ k = 2 ∨ k = 3 ∨ k = 4 ∨ k = 5 ∨ ¬ (0 ≤ k ∧ k ≤ 5) := by omega
  rcases hc with e | e | e | e | e | e | e
  · have hq := g0 e
    subst e
    refine G_iload_n (pc := 0) dX9_count_0 rfl ?_
    refine G_tin (pc := 1) 0 40 dX9_count_1 (by omega) (by omega) (by omega) rfl (by decide) ?_
    · skip
      skip
      refine S_aload_n (pc := 40) dX9_count_40 rfl ?_
      refine S_getR (pc := 41) dX9_count_41 fX9_54 (by assumption) rfl (by assumption) ?_
      refine S_callV (pc := 44) (ci := 3) (d2 := 1) (mc2 := 0) (ms2 := 0) (As := []) dX9_count_44 kX3_prime lkX9_251 (by assumption) rfl rfl rfl (Nat.le_of_ble_eq_true rfl) ⟨by decide, by decide⟩ (by decide) ?_
      refine c_X3_prime hRs ?_
      show G _ _ _ _ _ _ _ _ _ _ _ _ _
      refine G_iret (pc := 47) dX9_count_47 rfl (by decide) ?_
      exact hq
  · have hq := g1 e
    subst e
    refine G_iload_n (pc := 0) dX9_count_0 rfl ?_
    refine G_tin (pc := 1) 1 48 dX9_count_1 (by omega) (by omega) (by omega) rfl (by decide) ?_
    · skip
      skip
      refine S_aload_n (pc := 48) dX9_count_48 rfl ?_
      refine S_getI (pc := 49) dX9_count_49 fX9_148 (by assumption) rfl ?_
      refine G_iret (pc := 52) dX9_count_52 rfl (by decide) ?_
      exact hq
  · have hq := g2 e
    subst e
    refine G_iload_n (pc := 0) dX9_count_0 rfl ?_
    refine G_tin (pc := 1) 2 53 dX9_count_1 (by omega) (by omega) (by omega) rfl (by decide) ?_
    · skip
      skip
      refine S_aload_n (pc := 53) dX9_count_53 rfl ?_
      refine S_getR (pc := 54) dX9_count_54 fX9_72 (by assumption) rfl (by assumption) ?_
      refine S_callV (pc := 57) (ci := 2) (d2 := 1) (mc2 := 0) (ms2 := 0) (As := []) dX9_count_57 kX2_size lkX9_207 (by assumption) rfl rfl rfl (Nat.le_of_ble_eq_true rfl) ⟨by decide, by decide⟩ (by decide) ?_
      refine c_X2_size hL ?_
      show G _ _ _ _ _ _ _ _ _ _ _ _ _
      refine G_iret (pc := 60) dX9_count_60 rfl (by decide) ?_
      exact hq
  · have hq := g3 e
    subst e
    refine G_iload_n (pc := 0) dX9_count_0 rfl ?_
    refine G_tin (pc := 1) 3 61 dX9_count_1 (by omega) (by omega) (by omega) rfl (by decide) ?_
    · skip
      skip
      refine S_aload_n (pc := 61) dX9_count_61 rfl ?_
      refine S_getI (pc := 62) dX9_count_62 fX9_103 (by assumption) rfl ?_
      refine G_iret (pc := 65) dX9_count_65 rfl (by decide) ?_
      exact hq
  · have hq := g4 e
    subst e
    refine G_iload_n (pc := 0) dX9_count_0 rfl ?_
    refine G_tin (pc := 1) 4 66 dX9_count_1 (by omega) (by omega) (by omega) rfl (by decide) ?_
    · skip
      skip
      refine S_aload_n (pc := 66) dX9_count_66 rfl ?_
      refine S_getR (pc := 67) dX9_count_67 fX9_31 (by assumption) rfl (by assumption) ?_
      refine S_callV (pc := 70) (ci := 6) (d2 := 1) (mc2 := 0) (ms2 := 0) (As := []) dX9_count_70 kX6_size lkX9_168 (by assumption) rfl rfl rfl (Nat.le_of_ble_eq_true rfl) ⟨by decide, by decide⟩ (by decide) ?_
      refine c_X6_size hT ?_
      show G _ _ _ _ _ _ _ _ _ _ _ _ _
      refine G_iret (pc := 73) dX9_count_73 rfl (by decide) ?_
      exact hq
  · have hq := g5 e
    subst e
    refine G_iload_n (pc := 0) dX9_count_0 rfl ?_
    refine G_tin (pc := 1) 5 74 dX9_count_1 (by omega) (by omega) (by omega) rfl (by decide) ?_
    · skip
      skip
      refine S_aload_n (pc := 74) dX9_count_74 rfl ?_
      refine S_getI (pc := 75) dX9_count_75 fX9_175 (by assumption) rfl ?_
      refine G_iret (pc := 78) dX9_count_78 rfl (by decide) ?_
      exact hq
  · have hq := g6 e
    refine G_iload_n (pc := 0) dX9_count_0 rfl ?_
    refine G_tout (pc := 1) 79 dX9_count_1 (by omega) (by omega) (by decide) ?_
    · skip
      skip
      refine G_bipush (pc := 79) dX9_count_79 rfl ?_
      refine G_iret (pc := 81) dX9_count_81 rfl (by decide) ?_
      exact hq
def sa (i : Int) : Nat := 64 + 2 * i.toNat
def PsW (sh : SH) (S : SS) : Prop := ∀ i : Int, 0 ≤ i → i < 4 → ShW sh S (sa i)
set_option maxRecDepth 100000 in
set_option maxHeartbeats 4000000 in
theorem c_X9_sheet {g : GC} {p s so nn : Int} {sh : SH} {S : SS} {n : Nat} {Q : Option Value → GA → Nat → Prop} (hW : PbW p sh S) (hS : PsW sh S) (hr : (-2147483648 ≤ s ∧ s ≤ 2147483647) ∧ (-2147483648 ≤ so ∧ so ≤ 2147483647) ∧ (-2147483648 ≤ nn ∧ nn ≤ 2147483647)) (h0 : ¬ ((0 ≤ s ∧ s < 4) ∧ (-1 ≤ so ∧ so ≤ 2) ∧ (so < 0 ∨ nn ≤ 40)) → Q (some (.int (iI (-2)))) (hp g sh S) n) (h1 : (0 ≤ s ∧ s < 4) → (0 ≤ so ∧ so ≤ 2) → nn < 0 → Q (some (.int (iI (-14)))) (hp g sh S) n)
    (h2 : (0 ≤ s ∧ s < 4) → (0 ≤ so ∧ so ≤ 2) → (0 ≤ nn ∧ nn ≤ 40) → Q (some (.int (iI 1))) (hp g sh (putA (setF (setF S (sa s) 0 so) (sa s) 1 nn) (sa s + 1) pz)) n)
    (h3 : (0 ≤ s ∧ s < 4) → so = -1 → Q (some (.int (iI 1))) (hp g sh (putA (setF (setF S (sa s) 0 so) (sa s) 1 0) (sa s + 1) pz)) n) : GCall g mX9_sheet 3 0 0 [gr g 0, .int (iI s), .int (iI so), .int (iI nn)] (hp g sh S) n Q := by
  have hW' := hW
  obtain ⟨hK, hA, hMd, hPo⟩ := hW'
  obtain ⟨k0, q0, q1, q2, q3, q4, q7, q8, q9, q12, q13, q14, s1, s4, s9, s10, s11, f1, f2, f3⟩ := hK
  have hP := hA.1.1
  have hRs := hA.1.2.1
  have hpb := hP.bd
  have h12 := hRs.1
  have h13 := hA.1.2.2.1
  have h2s := hMd.1.1
  refine GCall.of (by decide) (Nat.le_of_ble_eq_true rfl) (ls := [(0, _), (1, _), (2, _), (3, _)]) rfl ?_
  refine G_iload_n (pc := 0) dX9_sheet_0 rfl ?_
  refine G_iconst (pc := 1) dX9_sheet_1 ?_
  refine G_callS (pc := 2) (d2 := 1) (mc2 := 0) (ms2 := 0) (As := [_, _]) dX9_sheet_2 kX9_isWithin lkX9_111 rfl rfl (Nat.le_of_ble_eq_true rfl) ⟨by decide, by decide⟩ (by decide) ?_
  refine c_X9_isWithin (by omega) (fun w2 => ?_) (fun w2 => ?_)
  · show G _ _ _ _ _ _ _ _ _ _ _ _ _
    refine G_if_eq_f (pc := 5) 21 dX9_sheet_5 rfl (by decide) (by decide) ?_
    refine G_iload_n (pc := 8) dX9_sheet_8 rfl ?_
    refine G_iconst (pc := 9) dX9_sheet_9 ?_
    refine G_icmp_eq (pc := 10) 24 dX9_sheet_10 rfl (by omega) (fun c10 => ?_) (fun c10 => ?_)
    · skip
      refine G_iload_n (pc := 24) dX9_sheet_24 rfl ?_
      refine G_iconst (pc := 25) dX9_sheet_25 ?_
      refine G_icmp_ne (pc := 26) 42 dX9_sheet_26 rfl (by omega) (fun c26 => ?_) (fun c26 => ?_)
      · skip
        refine G_iload_n (pc := 42) dX9_sheet_42 rfl ?_
        refine G_bipush (pc := 43) dX9_sheet_43 rfl ?_
        refine G_icmp_le (pc := 45) 51 dX9_sheet_45 rfl (by omega) (fun c45 => ?_) (fun c45 => ?_)
        · skip
          refine G_iload_n (pc := 51) dX9_sheet_51 rfl ?_
          refine G_if_ge (pc := 52) 58 dX9_sheet_52 rfl (by omega) (fun c52 => ?_) (fun c52 => ?_)
          · skip
            refine S_aload_n (pc := 58) dX9_sheet_58 rfl ?_
            refine S_getR (pc := 59) dX9_sheet_59 fX9_47 (by assumption) rfl (by assumption) ?_
            refine G_iload_n (pc := 62) dX9_sheet_62 rfl ?_
            refine S_aald (pc := 63) dX9_sheet_63 (by assumption) rfl (by omega) (f3 _ w2.1 w2.2) ?_
            refine G_iload_n (pc := 64) dX9_sheet_64 rfl ?_
            refine G_iload_n (pc := 65) dX9_sheet_65 rfl ?_
            refine S_callV (pc := 66) (ci := 5) (d2 := 2) (mc2 := 0) (ms2 := 0) (As := [_, _]) dX9_sheet_66 kX5_begin lkX9_258 (hS s w2.1 w2.2).1 rfl rfl rfl (Nat.le_of_ble_eq_true rfl) ⟨by decide, by decide⟩ (by decide) ?_
            refine c_X5_begin (hS s w2.1 w2.2) (by omega) ?_
            show G _ _ _ _ _ _ _ _ _ _ _ _ _
            refine G_iconst (pc := 69) dX9_sheet_69 ?_
            refine G_iret (pc := 70) dX9_sheet_70 rfl (by decide) ?_
            first | exact h0 (by omega) | exact h1 (by omega) (by omega) (by omega) | exact h2 w2 (by omega) (by omega) | exact h3 w2 (by omega)
          · skip
            refine G_bipush (pc := 55) dX9_sheet_55 rfl ?_
            refine G_iret (pc := 57) dX9_sheet_57 rfl (by decide) ?_
            first | exact h0 (by omega) | exact h1 (by omega) (by omega) (by omega) | exact h2 w2 (by omega) (by omega) | exact h3 w2 (by omega)
        · skip
          refine G_bipush (pc := 48) dX9_sheet_48 rfl ?_
          refine G_iret (pc := 50) dX9_sheet_50 rfl (by decide) ?_
          first | exact h0 (by omega) | exact h1 (by omega) (by omega) (by omega) | exact h2 w2 (by omega) (by omega) | exact h3 w2 (by omega)
      · skip
        refine S_aload_n (pc := 29) dX9_sheet_29 rfl ?_
        refine S_getR (pc := 30) dX9_sheet_30 fX9_47 (by assumption) rfl (by assumption) ?_
        refine G_iload_n (pc := 33) dX9_sheet_33 rfl ?_
        refine S_aald (pc := 34) dX9_sheet_34 (by assumption) rfl (by omega) (f3 _ w2.1 w2.2) ?_
        refine G_iload_n (pc := 35) dX9_sheet_35 rfl ?_
        refine G_iconst (pc := 36) dX9_sheet_36 ?_
        refine S_callV (pc := 37) (ci := 5) (d2 := 2) (mc2 := 0) (ms2 := 0) (As := [_, _]) dX9_sheet_37 kX5_begin lkX9_258 (hS s w2.1 w2.2).1 rfl rfl rfl (Nat.le_of_ble_eq_true rfl) ⟨by decide, by decide⟩ (by decide) ?_
        refine c_X5_begin (hS s w2.1 w2.2) (by decide) ?_
        show G _ _ _ _ _ _ _ _ _ _ _ _ _
        refine G_iconst (pc := 40) dX9_sheet_40 ?_
        refine G_iret (pc := 41) dX9_sheet_41 rfl (by decide) ?_
        first | exact h0 (by omega) | exact h1 (by omega) (by omega) (by omega) | exact h2 w2 (by omega) (by omega) | exact h3 w2 (by omega)
    · skip
      refine G_iload_n (pc := 13) dX9_sheet_13 rfl ?_
      refine G_iconst (pc := 14) dX9_sheet_14 ?_
      refine G_callS (pc := 15) (d2 := 1) (mc2 := 0) (ms2 := 0) (As := [_, _]) dX9_sheet_15 kX9_isWithin lkX9_111 rfl rfl (Nat.le_of_ble_eq_true rfl) ⟨by decide, by decide⟩ (by decide) ?_
      refine c_X9_isWithin (by omega) (fun w15 => ?_) (fun w15 => ?_)
      · show G _ _ _ _ _ _ _ _ _ _ _ _ _
        refine G_if_ne_t (pc := 18) 24 dX9_sheet_18 rfl (by decide) (by decide) ?_
        refine G_iload_n (pc := 24) dX9_sheet_24 rfl ?_
        refine G_iconst (pc := 25) dX9_sheet_25 ?_
        refine G_icmp_ne (pc := 26) 42 dX9_sheet_26 rfl (by omega) (fun c26 => ?_) (fun c26 => ?_)
        · skip
          refine G_iload_n (pc := 42) dX9_sheet_42 rfl ?_
          refine G_bipush (pc := 43) dX9_sheet_43 rfl ?_
          refine G_icmp_le (pc := 45) 51 dX9_sheet_45 rfl (by omega) (fun c45 => ?_) (fun c45 => ?_)
          · skip
            refine G_iload_n (pc := 51) dX9_sheet_51 rfl ?_
            refine G_if_ge (pc := 52) 58 dX9_sheet_52 rfl (by omega) (fun c52 => ?_) (fun c52 => ?_)
            · skip
              refine S_aload_n (pc := 58) dX9_sheet_58 rfl ?_
              refine S_getR (pc := 59) dX9_sheet_59 fX9_47 (by assumption) rfl (by assumption) ?_
              refine G_iload_n (pc := 62) dX9_sheet_62 rfl ?_
              refine S_aald (pc := 63) dX9_sheet_63 (by assumption) rfl (by omega) (f3 _ w2.1 w2.2) ?_
              refine G_iload_n (pc := 64) dX9_sheet_64 rfl ?_
              refine G_iload_n (pc := 65) dX9_sheet_65 rfl ?_
              refine S_callV (pc := 66) (ci := 5) (d2 := 2) (mc2 := 0) (ms2 := 0) (As := [_, _]) dX9_sheet_66 kX5_begin lkX9_258 (hS s w2.1 w2.2).1 rfl rfl rfl (Nat.le_of_ble_eq_true rfl) ⟨by decide, by decide⟩ (by decide) ?_
              refine c_X5_begin (hS s w2.1 w2.2) (by omega) ?_
              show G _ _ _ _ _ _ _ _ _ _ _ _ _
              refine G_iconst (pc := 69) dX9_sheet_69 ?_
              refine G_iret (pc := 70) dX9_sheet_70 rfl (by decide) ?_
              first | exact h0 (by omega) | exact h1 (by omega) (by omega) (by omega) | exact h2 w2 (by omega) (by omega) | exact h3 w2 (by omega)
            · skip
              refine G_bipush (pc := 55) dX9_sheet_55 rfl ?_
              refine G_iret (pc := 57) dX9_sheet_57 rfl (by decide) ?_
              first | exact h0 (by omega) | exact h1 (by omega) (by omega) (by omega) | exact h2 w2 (by omega) (by omega) | exact h3 w2 (by omega)
          · skip
            refine G_bipush (pc := 48) dX9_sheet_48 rfl ?_
            refine G_iret (pc := 50) dX9_sheet_50 rfl (by decide) ?_
            first | exact h0 (by omega) | exact h1 (by omega) (by omega) (by omega) | exact h2 w2 (by omega) (by omega) | exact h3 w2 (by omega)
        · skip
          refine S_aload_n (pc := 29) dX9_sheet_29 rfl ?_
          refine S_getR (pc := 30) dX9_sheet_30 fX9_47 (by assumption) rfl (by assumption) ?_
          refine G_iload_n (pc := 33) dX9_sheet_33 rfl ?_
          refine S_aald (pc := 34) dX9_sheet_34 (by assumption) rfl (by omega) (f3 _ w2.1 w2.2) ?_
          refine G_iload_n (pc := 35) dX9_sheet_35 rfl ?_
          refine G_iconst (pc := 36) dX9_sheet_36 ?_
          refine S_callV (pc := 37) (ci := 5) (d2 := 2) (mc2 := 0) (ms2 := 0) (As := [_, _]) dX9_sheet_37 kX5_begin lkX9_258 (hS s w2.1 w2.2).1 rfl rfl rfl (Nat.le_of_ble_eq_true rfl) ⟨by decide, by decide⟩ (by decide) ?_
          refine c_X5_begin (hS s w2.1 w2.2) (by decide) ?_
          show G _ _ _ _ _ _ _ _ _ _ _ _ _
          refine G_iconst (pc := 40) dX9_sheet_40 ?_
          refine G_iret (pc := 41) dX9_sheet_41 rfl (by decide) ?_
          first | exact h0 (by omega) | exact h1 (by omega) (by omega) (by omega) | exact h2 w2 (by omega) (by omega) | exact h3 w2 (by omega)
      · show G _ _ _ _ _ _ _ _ _ _ _ _ _
        refine G_if_ne_f (pc := 18) 24 dX9_sheet_18 rfl (by decide) (by decide) ?_
        refine G_bipush (pc := 21) dX9_sheet_21 rfl ?_
        refine G_iret (pc := 23) dX9_sheet_23 rfl (by decide) ?_
        first | exact h0 (by omega) | exact h1 (by omega) (by omega) (by omega) | exact h2 w2 (by omega) (by omega) | exact h3 w2 (by omega)
  · show G _ _ _ _ _ _ _ _ _ _ _ _ _
    refine G_if_eq_t (pc := 5) 21 dX9_sheet_5 rfl (by decide) (by decide) ?_
    refine G_bipush (pc := 21) dX9_sheet_21 rfl ?_
    refine G_iret (pc := 23) dX9_sheet_23 rfl (by decide) ?_
    first | exact h0 (by omega) | exact h1 (by omega) (by omega) (by omega) | exact h2 w2 (by omega) (by omega) | exact h3 w2 (by omega)
set_option maxRecDepth 100000 in
set_option maxHeartbeats 4000000 in
theorem c_X9_cell {g : GC} {p s i v : Int} {sh : SH} {S : SS} {n : Nat} {Q : Option Value → GA → Nat → Prop} (hW : PbW p sh S) (hS : PsW sh S) (hr : (-2147483648 ≤ s ∧ s ≤ 2147483647) ∧ (-2147483648 ≤ i ∧ i ≤ 2147483647) ∧ (-2147483648 ≤ v ∧ v ≤ 2147483647)) (h0 : ¬ (0 ≤ s ∧ s < 4) → Q (some (.int (iI (-2)))) (hp g sh S) n) (h1 : (0 ≤ s ∧ s < 4) → S.1 (sa s) 0 = -1 → Q (some (.int (iI (-11)))) (hp g sh S) n) (h2 : (0 ≤ s ∧ s < 4) → S.1 (sa s) 0 ≠ -1 → ¬ (0 ≤ i ∧ i < S.1 (sa s) 1) → Q (some (.int (iI (-12)))) (hp g sh S) n)
    (h3 : (0 ≤ s ∧ s < 4) → S.1 (sa s) 0 ≠ -1 → (0 ≤ i ∧ i < S.1 (sa s) 1) → Q (some (.int (iI 1))) (hp g sh (setA S (sa s + 1) i (cut_ (S.1 (sa s) 0) v))) n) : GCall g mX9_cell 3 0 0 [gr g 0, .int (iI s), .int (iI i), .int (iI v)] (hp g sh S) n Q := by
  have hW' := hW
  obtain ⟨hK, hA, hMd, hPo⟩ := hW'
  obtain ⟨k0, q0, q1, q2, q3, q4, q7, q8, q9, q12, q13, q14, s1, s4, s9, s10, s11, f1, f2, f3⟩ := hK
  have hP := hA.1.1
  have hRs := hA.1.2.1
  have hpb := hP.bd
  have h12 := hRs.1
  have h13 := hA.1.2.2.1
  have h2s := hMd.1.1
  refine GCall.of (by decide) (Nat.le_of_ble_eq_true rfl) (ls := [(0, _), (1, _), (2, _), (3, _)]) rfl ?_
  have hb : (0 ≤ s ∧ s < 4) → (-1 ≤ S.1 (sa s) 0 ∧ S.1 (sa s) 0 ≤ 2) ∧ (0 ≤ S.1 (sa s) 1 ∧ S.1 (sa s) 1 ≤ 40) := fun z => ⟨(hS s z.1 z.2).2.2.2.1, (hS s z.1 z.2).2.2.2.2.1⟩
  refine G_iload_n (pc := 0) dX9_cell_0 rfl ?_
  refine G_iconst (pc := 1) dX9_cell_1 ?_
  refine G_callS (pc := 2) (d2 := 1) (mc2 := 0) (ms2 := 0) (As := [_, _]) dX9_cell_2 kX9_isWithin lkX9_111 rfl rfl (Nat.le_of_ble_eq_true rfl) ⟨by decide, by decide⟩ (by decide) ?_
  refine c_X9_isWithin (by omega) (fun w2 => ?_) (fun w2 => ?_)
  · show G _ _ _ _ _ _ _ _ _ _ _ _ _
    refine G_if_ne_t (pc := 5) 11 dX9_cell_5 rfl (by decide) (by decide) ?_
    refine S_aload_n (pc := 11) dX9_cell_11 rfl ?_
    refine S_getR (pc := 12) dX9_cell_12 fX9_47 (by assumption) rfl (by assumption) ?_
    refine G_iload_n (pc := 15) dX9_cell_15 rfl ?_
    refine S_aald (pc := 16) dX9_cell_16 (by assumption) rfl (by omega) (f3 _ w2.1 w2.2) ?_
    refine S_callV (pc := 17) (ci := 5) (d2 := 1) (mc2 := 0) (ms2 := 0) (As := []) dX9_cell_17 kX5_sort lkX9_261 (hS s w2.1 w2.2).1 rfl rfl rfl (Nat.le_of_ble_eq_true rfl) ⟨by decide, by decide⟩ (by decide) ?_
    refine c_X5_sort (hS s w2.1 w2.2) ?_
    show G _ _ _ _ _ _ _ _ _ _ _ _ _
    have hbb := hb w2
    refine G_iconst (pc := 20) dX9_cell_20 ?_
    refine G_icmp_ne (pc := 21) 27 dX9_cell_21 rfl (by omega) (fun c21 => ?_) (fun c21 => ?_)
    · skip
      refine G_iload_n (pc := 27) dX9_cell_27 rfl ?_
      refine S_aload_n (pc := 28) dX9_cell_28 rfl ?_
      refine S_getR (pc := 29) dX9_cell_29 fX9_47 (by assumption) rfl (by assumption) ?_
      refine G_iload_n (pc := 32) dX9_cell_32 rfl ?_
      refine S_aald (pc := 33) dX9_cell_33 (by assumption) rfl (by omega) (f3 _ w2.1 w2.2) ?_
      refine S_callV (pc := 34) (ci := 5) (d2 := 1) (mc2 := 0) (ms2 := 0) (As := []) dX9_cell_34 kX5_size lkX9_264 (hS s w2.1 w2.2).1 rfl rfl rfl (Nat.le_of_ble_eq_true rfl) ⟨by decide, by decide⟩ (by decide) ?_
      refine c_X5_size (hS s w2.1 w2.2) ?_
      show G _ _ _ _ _ _ _ _ _ _ _ _ _
      refine G_callS (pc := 37) (d2 := 1) (mc2 := 0) (ms2 := 0) (As := [_, _]) dX9_cell_37 kX9_isWithin lkX9_111 rfl rfl (Nat.le_of_ble_eq_true rfl) ⟨by decide, by decide⟩ (by decide) ?_
      refine c_X9_isWithin (by omega) (fun w37 => ?_) (fun w37 => ?_)
      · show G _ _ _ _ _ _ _ _ _ _ _ _ _
        refine G_if_ne_t (pc := 40) 46 dX9_cell_40 rfl (by decide) (by decide) ?_
        refine S_aload_n (pc := 46) dX9_cell_46 rfl ?_
        refine S_getR (pc := 47) dX9_cell_47 fX9_47 (by assumption) rfl (by assumption) ?_
        refine G_iload_n (pc := 50) dX9_cell_50 rfl ?_
        refine S_aald (pc := 51) dX9_cell_51 (by assumption) rfl (by omega) (f3 _ w2.1 w2.2) ?_
        refine G_iload_n (pc := 52) dX9_cell_52 rfl ?_
        refine G_iload_n (pc := 53) dX9_cell_53 rfl ?_
        refine S_callV (pc := 54) (ci := 5) (d2 := 2) (mc2 := 0) (ms2 := 0) (As := [_, _]) dX9_cell_54 kX5_write lkX9_265 (hS s w2.1 w2.2).1 rfl rfl rfl (Nat.le_of_ble_eq_true rfl) ⟨by decide, by decide⟩ (by decide) ?_
        refine c_X5_write (hS s w2.1 w2.2) w37 (by omega) ?_
        show G _ _ _ _ _ _ _ _ _ _ _ _ _
        refine G_iconst (pc := 57) dX9_cell_57 ?_
        refine G_iret (pc := 58) dX9_cell_58 rfl (by decide) ?_
        first | exact h0 (by omega) | exact h1 w2 (by omega) | exact h2 w2 (by omega) (by omega) | exact h3 w2 (by omega) w37
      · show G _ _ _ _ _ _ _ _ _ _ _ _ _
        refine G_if_ne_f (pc := 40) 46 dX9_cell_40 rfl (by decide) (by decide) ?_
        refine G_bipush (pc := 43) dX9_cell_43 rfl ?_
        refine G_iret (pc := 45) dX9_cell_45 rfl (by decide) ?_
        first | exact h0 (by omega) | exact h1 w2 (by omega) | exact h2 w2 (by omega) (by omega) | exact h3 w2 (by omega) w37
    · skip
      refine G_bipush (pc := 24) dX9_cell_24 rfl ?_
      refine G_iret (pc := 26) dX9_cell_26 rfl (by decide) ?_
      first | exact h0 (by omega) | exact h1 w2 (by omega) | exact h2 w2 (by omega) (by omega) | exact h3 w2 (by omega) w37
  · show G _ _ _ _ _ _ _ _ _ _ _ _ _
    refine G_if_ne_f (pc := 5) 11 dX9_cell_5 rfl (by decide) (by decide) ?_
    refine G_bipush (pc := 8) dX9_cell_8 rfl ?_
    refine G_iret (pc := 10) dX9_cell_10 rfl (by decide) ?_
    first | exact h0 (by omega) | exact h1 w2 (by omega) | exact h2 w2 (by omega) (by omega) | exact h3 w2 (by omega) w37
