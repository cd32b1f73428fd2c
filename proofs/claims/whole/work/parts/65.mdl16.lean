/-! the Model: count -/
set_option maxRecDepth 100000 in
set_option maxHeartbeats 4000000 in
theorem c_X10_count {g : GC} {k : Int} {sh : SH} {S : SS} {n : Nat} {Q : Option Value → GA → Nat → Prop} (h96 : sh 96 = some (.inl 10)) (hk : -2147483648 ≤ k ∧ k ≤ 2147483647)
    (q0 : k = 0 → Q (some (.int (iI (S.1 96 1)))) (hp g sh S) n)
    (q1 : k = 1 → Q (some (.int (iI (S.1 96 3)))) (hp g sh S) n)
    (q2 : k = 2 → Q (some (.int (iI (S.1 96 29)))) (hp g sh S) n)
    (q3 : k = 3 → Q (some (.int (iI (S.1 96 11)))) (hp g sh S) n)
    (q4 : k = 4 → Q (some (.int (iI (S.1 96 14)))) (hp g sh S) n)
    (q5 : k = 5 → Q (some (.int (iI (S.1 96 12)))) (hp g sh S) n)
    (q6 : ¬ (0 ≤ k ∧ k ≤ 5) → Q (some (.int (iI (-2)))) (hp g sh S) n) : GCall g mX10_count 1 0 0 [gr g 96, .int (iI k)] (hp g sh S) n Q := by
  refine GCall.of (by decide) (Nat.le_of_ble_eq_true rfl) (ls := [(0, _), (1, _)]) rfl ?_
  by_cases hin : 0 ≤ k ∧ k ≤ 5
  · have hc : k = 0 ∨ k = 1 ∨ k = 2 ∨ k = 3 ∨ k = 4 ∨ k = 5 := by omega
    rcases hc with e | e | e | e | e | e
    · skip
      refine G_iload_n (pc := 0) dX10_count_0 rfl ?_
      refine G_tin (pc := 1) 0 40 dX10_count_1 (by omega) (by omega) (by omega) rfl (by decide) ?_
      · skip
        skip
        refine S_aload_n (pc := 40) dX10_count_40 rfl ?_
        refine S_getI (pc := 41) dX10_count_41 fX10_64 (by assumption) rfl ?_
        refine G_iret (pc := 44) dX10_count_44 rfl (by decide) ?_
        exact q0 e
    · skip
      refine G_iload_n (pc := 0) dX10_count_0 rfl ?_
      refine G_tin (pc := 1) 1 45 dX10_count_1 (by omega) (by omega) (by omega) rfl (by decide) ?_
      · skip
        skip
        refine S_aload_n (pc := 45) dX10_count_45 rfl ?_
        refine S_getI (pc := 46) dX10_count_46 fX10_112 (by assumption) rfl ?_
        refine G_iret (pc := 49) dX10_count_49 rfl (by decide) ?_
        exact q1 e
    · skip
      refine G_iload_n (pc := 0) dX10_count_0 rfl ?_
      refine G_tin (pc := 1) 2 50 dX10_count_1 (by omega) (by omega) (by omega) rfl (by decide) ?_
      · skip
        skip
        refine S_aload_n (pc := 50) dX10_count_50 rfl ?_
        refine S_getI (pc := 51) dX10_count_51 fX10_284 (by assumption) rfl ?_
        refine G_iret (pc := 54) dX10_count_54 rfl (by decide) ?_
        exact q2 e
    · skip
      refine G_iload_n (pc := 0) dX10_count_0 rfl ?_
      refine G_tin (pc := 1) 3 55 dX10_count_1 (by omega) (by omega) (by omega) rfl (by decide) ?_
      · skip
        skip
        refine S_aload_n (pc := 55) dX10_count_55 rfl ?_
        refine S_getI (pc := 56) dX10_count_56 fX10_79 (by assumption) rfl ?_
        refine G_iret (pc := 59) dX10_count_59 rfl (by decide) ?_
        exact q3 e
    · skip
      refine G_iload_n (pc := 0) dX10_count_0 rfl ?_
      refine G_tin (pc := 1) 4 60 dX10_count_1 (by omega) (by omega) (by omega) rfl (by decide) ?_
      · skip
        skip
        refine S_aload_n (pc := 60) dX10_count_60 rfl ?_
        refine S_getI (pc := 61) dX10_count_61 fX10_165 (by assumption) rfl ?_
        refine G_iret (pc := 64) dX10_count_64 rfl (by decide) ?_
        exact q4 e
    · skip
      refine G_iload_n (pc := 0) dX10_count_0 rfl ?_
      refine G_tin (pc := 1) 5 65 dX10_count_1 (by omega) (by omega) (by omega) rfl (by decide) ?_
      · skip
        skip
        refine S_aload_n (pc := 65) dX10_count_65 rfl ?_
        refine S_getI (pc := 66) dX10_count_66 fX10_258 (by assumption) rfl ?_
        refine G_iret (pc := 69) dX10_count_69 rfl (by decide) ?_
        exact q5 e
  · skip
    refine G_iload_n (pc := 0) dX10_count_0 rfl ?_
    refine G_tout (pc := 1) 70 dX10_count_1 (by omega) (by omega) (by decide) ?_
    · skip
      skip
      refine G_bipush (pc := 70) dX10_count_70 rfl ?_
      refine G_iret (pc := 72) dX10_count_72 rfl (by decide) ?_
      exact q6 hin
