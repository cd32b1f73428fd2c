/-! the Model: way, isLong -/
set_option maxRecDepth 100000 in
set_option maxHeartbeats 4000000 in
theorem c_X10_way {g : GC} {w k c : Int} {sh : SH} {S : SS} {n : Nat} {Q : Option Value → GA → Nat → Prop} (hV : MvW sh S w) (hr : (-2147483648 ≤ k ∧ k ≤ 2147483647) ∧ (-2147483648 ≤ c ∧ c ≤ 2147483647)) (h0 : ¬ ((0 ≤ k ∧ k ≤ 5) ∧ (1 ≤ c ∧ c ≤ 16)) → Q (some (.int (iI (-2)))) (hp g sh S) n) (h1 : (0 ≤ k ∧ k ≤ 5) → (1 ≤ c ∧ c ≤ 16) → w = 8 → Q (some (.int (iI (-4)))) (hp g sh S) n)
    (h2 : (0 ≤ k ∧ k ≤ 5) → (1 ≤ c ∧ c ≤ 16) → w < 8 → Q (some (.int (iI w))) (hp g sh (setF (setA (setA S 98 w k) 99 w c) 96 3 (w + 1))) n) :
    GCall g mX10_way 2 0 0 [gr g 96, .int (iI k), .int (iI c)] (hp g sh S) n Q := by
  obtain ⟨h96, q4, q5, h98, h99, hw, hwb, r98, r99⟩ := hV
  obtain ⟨hr1, hr2⟩ := hr
  refine GCall.of (by decide) (Nat.le_of_ble_eq_true rfl) (ls := [(0, _), (1, _), (2, _)]) rfl ?_
  have e1 : (setA S 98 w k).1 96 3 = w := hw
  have e2 : (setA (setA S 98 w k) 99 w c).1 96 3 = w := hw
  have e3 : (setF (setA (setA S 98 w k) 99 w c) 96 3 (w + 1)).1 96 3 = w + 1 := setF_at
  refine G_iload_n (pc := 0) dX10_way_0 rfl ?_
  refine G_iconst (pc := 1) dX10_way_1 ?_
  refine G_iconst (pc := 2) dX10_way_2 ?_
  refine G_callS (pc := 3) (d2 := 1) (mc2 := 0) (ms2 := 0) (As := [_, _, _]) dX10_way_3 kX10_in lkX10_86 rfl rfl (Nat.le_of_ble_eq_true rfl) ⟨by decide, by decide⟩ (by decide) ?_
  refine c_X10_in (by omega) (fun w3 => ?_) (fun w3 => ?_)
  · show G _ _ _ _ _ _ _ _ _ _ _ _ _
    refine G_if_eq_f (pc := 6) 19 dX10_way_6 rfl (by decide) (by decide) ?_
    refine G_iload_n (pc := 9) dX10_way_9 rfl ?_
    refine G_iconst (pc := 10) dX10_way_10 ?_
    refine G_bipush (pc := 11) dX10_way_11 rfl ?_
    refine G_callS (pc := 13) (d2 := 1) (mc2 := 0) (ms2 := 0) (As := [_, _, _]) dX10_way_13 kX10_in lkX10_86 rfl rfl (Nat.le_of_ble_eq_true rfl) ⟨by decide, by decide⟩ (by decide) ?_
    refine c_X10_in (by omega) (fun w13 => ?_) (fun w13 => ?_)
    · show G _ _ _ _ _ _ _ _ _ _ _ _ _
      refine G_if_ne_t (pc := 16) 22 dX10_way_16 rfl (by decide) (by decide) ?_
      refine S_aload_n (pc := 22) dX10_way_22 rfl ?_
      refine S_getI (pc := 23) dX10_way_23 fX10_112 (by assumption) rfl ?_
      rw [hw]
      refine G_bipush (pc := 26) dX10_way_26 rfl ?_
      refine G_icmp_ne (pc := 28) 34 dX10_way_28 rfl (by omega) (fun c28 => ?_) (fun c28 => ?_)
      · skip
        refine S_aload_n (pc := 34) dX10_way_34 rfl ?_
        refine S_getR (pc := 35) dX10_way_35 fX10_17 (by assumption) rfl (by assumption) ?_
        refine S_aload_n (pc := 38) dX10_way_38 rfl ?_
        refine S_getI (pc := 39) dX10_way_39 fX10_112 (by assumption) rfl ?_
        rw [hw]
        refine G_iload_n (pc := 42) dX10_way_42 rfl ?_
        refine S_iast (pc := 43) dX10_way_43 (by assumption) (by omega) ?_
        refine S_aload_n (pc := 44) dX10_way_44 rfl ?_
        refine S_getR (pc := 45) dX10_way_45 fX10_20 (by assumption) rfl (by assumption) ?_
        refine S_aload_n (pc := 48) dX10_way_48 rfl ?_
        refine S_getI (pc := 49) dX10_way_49 fX10_112 (by assumption) rfl ?_
        rw [e1]
        refine G_iload_n (pc := 52) dX10_way_52 rfl ?_
        refine S_iast (pc := 53) dX10_way_53 (by assumption) (by omega) ?_
        refine S_aload_n (pc := 54) dX10_way_54 rfl ?_
        refine G_dup (pc := 55) dX10_way_55 rfl ?_
        refine S_getI (pc := 56) dX10_way_56 fX10_112 (by assumption) rfl ?_
        rw [e2]
        refine G_iconst (pc := 59) dX10_way_59 ?_
        refine G_iadd (pc := 60) dX10_way_60 ?_
        refine S_putI (pc := 61) dX10_way_61 fX10_112 (by assumption) rfl ⟨rfl, rfl⟩ ?_
        refine S_aload_n (pc := 64) dX10_way_64 rfl ?_
        refine S_getI (pc := 65) dX10_way_65 fX10_112 (by assumption) rfl ?_
        rw [e3]
        refine G_iconst (pc := 68) dX10_way_68 ?_
        refine G_isub (pc := 69) dX10_way_69 ?_
        refine G_iret (pc := 70) dX10_way_70 rfl (by decide) ?_
        exact Q_i (by omega) (h2 (by omega) (by omega) (by omega))
      · skip
        refine G_bipush (pc := 31) dX10_way_31 rfl ?_
        refine G_iret (pc := 33) dX10_way_33 rfl (by decide) ?_
        exact h1 (by omega) (by omega) (by omega)
    · show G _ _ _ _ _ _ _ _ _ _ _ _ _
      refine G_if_ne_f (pc := 16) 22 dX10_way_16 rfl (by decide) (by decide) ?_
      refine G_bipush (pc := 19) dX10_way_19 rfl ?_
      refine G_iret (pc := 21) dX10_way_21 rfl (by decide) ?_
      exact h0 (by omega)
  · show G _ _ _ _ _ _ _ _ _ _ _ _ _
    refine G_if_eq_t (pc := 6) 19 dX10_way_6 rfl (by decide) (by decide) ?_
    refine G_bipush (pc := 19) dX10_way_19 rfl ?_
    refine G_iret (pc := 21) dX10_way_21 rfl (by decide) ?_
    exact h0 (by omega)
set_option maxRecDepth 100000 in
set_option maxHeartbeats 4000000 in
theorem c_X10_isLong {g : GC} {p a b : Int} {sh : SH} {S : SS} {n : Nat} {Q : Option Value → GA → Nat → Prop} (hW : MdW p sh S) (ha : 0 ≤ a ∧ a < 8) (hb : 0 ≤ b ∧ b < 8) (h1 : 0 < plen (mg S a) 80 ∧ 0 < plen (mg S b) 80 ∧ 32 < plen (mg S a) 80 + plen (mg S b) 80 - 1 → Q (some (.int (iI 1))) (hp g sh S) n) (h0 : ¬ (0 < plen (mg S a) 80 ∧ 0 < plen (mg S b) 80 ∧ 32 < plen (mg S a) 80 + plen (mg S b) 80 - 1) → Q (some (.int (iI 0))) (hp g sh S) n) :
    GCall g mX10_isLong 2 0 0 [gr g 96, .int (iI a), .int (iI b)] (hp g sh S) n Q := by
  have h96 := hW.2.1
  have hab := plen_bd (mg S a) 80
  have hbb := plen_bd (mg S b) 80
  refine GCall.of (by decide) (Nat.le_of_ble_eq_true rfl) (ls := [(0, _), (1, _), (2, _)]) rfl ?_
  refine S_aload_n (pc := 0) dX10_isLong_0 rfl ?_
  refine G_iload_n (pc := 1) dX10_isLong_1 rfl ?_
  refine S_callV (pc := 2) (ci := 10) (d2 := 1) (mc2 := 0) (ms2 := 0) (As := [_]) dX10_isLong_2 kX10_length lkX10_94 (by assumption) rfl rfl rfl (Nat.le_of_ble_eq_true rfl) ⟨by decide, by decide⟩ (by decide) ?_
  refine c_X10_length hW (by omega) ?_
  show G _ _ _ _ _ _ _ _ _ _ _ _ _
  refine G_if_le (pc := 5) 38 dX10_isLong_5 rfl (by omega) (fun c5 => ?_) (fun c5 => ?_)
  · skip
    refine G_iconst (pc := 38) dX10_isLong_38 ?_
    refine G_zret (pc := 39) dX10_isLong_39 rfl nar_z0 (by decide) ?_
    first | exact h1 (by omega) | exact h0 (by omega)
  · skip
    refine S_aload_n (pc := 8) dX10_isLong_8 rfl ?_
    refine G_iload_n (pc := 9) dX10_isLong_9 rfl ?_
    refine S_callV (pc := 10) (ci := 10) (d2 := 1) (mc2 := 0) (ms2 := 0) (As := [_]) dX10_isLong_10 kX10_length lkX10_94 (by assumption) rfl rfl rfl (Nat.le_of_ble_eq_true rfl) ⟨by decide, by decide⟩ (by decide) ?_
    refine c_X10_length hW (by omega) ?_
    show G _ _ _ _ _ _ _ _ _ _ _ _ _
    refine G_if_le (pc := 13) 38 dX10_isLong_13 rfl (by omega) (fun c13 => ?_) (fun c13 => ?_)
    · skip
      refine G_iconst (pc := 38) dX10_isLong_38 ?_
      refine G_zret (pc := 39) dX10_isLong_39 rfl nar_z0 (by decide) ?_
      first | exact h1 (by omega) | exact h0 (by omega)
    · skip
      refine S_aload_n (pc := 16) dX10_isLong_16 rfl ?_
      refine G_iload_n (pc := 17) dX10_isLong_17 rfl ?_
      refine S_callV (pc := 18) (ci := 10) (d2 := 1) (mc2 := 0) (ms2 := 0) (As := [_]) dX10_isLong_18 kX10_length lkX10_94 (by assumption) rfl rfl rfl (Nat.le_of_ble_eq_true rfl) ⟨by decide, by decide⟩ (by decide) ?_
      refine c_X10_length hW (by omega) ?_
      show G _ _ _ _ _ _ _ _ _ _ _ _ _
      refine S_aload_n (pc := 21) dX10_isLong_21 rfl ?_
      refine G_iload_n (pc := 22) dX10_isLong_22 rfl ?_
      refine S_callV (pc := 23) (ci := 10) (d2 := 1) (mc2 := 0) (ms2 := 0) (As := [_]) dX10_isLong_23 kX10_length lkX10_94 (by assumption) rfl rfl rfl (Nat.le_of_ble_eq_true rfl) ⟨by decide, by decide⟩ (by decide) ?_
      refine c_X10_length hW (by omega) ?_
      show G _ _ _ _ _ _ _ _ _ _ _ _ _
      refine G_iadd (pc := 26) dX10_isLong_26 ?_
      refine G_iconst (pc := 27) dX10_isLong_27 ?_
      refine G_isub (pc := 28) dX10_isLong_28 ?_
      refine G_bipush (pc := 29) dX10_isLong_29 rfl ?_
      refine G_icmp_le (pc := 31) 38 dX10_isLong_31 rfl (by omega) (fun c31 => ?_) (fun c31 => ?_)
      · skip
        refine G_iconst (pc := 38) dX10_isLong_38 ?_
        refine G_zret (pc := 39) dX10_isLong_39 rfl nar_z0 (by decide) ?_
        first | exact h1 (by omega) | exact h0 (by omega)
      · skip
        refine G_iconst (pc := 34) dX10_isLong_34 ?_
        refine G_goto (pc := 35) 39 dX10_isLong_35 rfl ?_
        refine G_zret (pc := 39) dX10_isLong_39 rfl nar_z1 (by decide) ?_
        first | exact h1 (by omega) | exact h0 (by omega)
