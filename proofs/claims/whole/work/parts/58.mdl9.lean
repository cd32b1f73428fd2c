/-! the Model: its places -/
def MpW (p : Int) (sh : SH) (S : SS) (m : Int) : Prop := S.2.2 96 30 = some 105 ∧ S.2.2 96 31 = some 106 ∧ sh 105 = some (.inr (1, 16)) ∧ sh 106 = some (.inr (1, 16)) ∧ S.1 96 29 = m ∧ (0 ≤ m ∧ m ≤ 16) ∧ Red p (S.2.1 105) ∧ Red p (S.2.1 106)
set_option maxRecDepth 100000 in
set_option maxHeartbeats 4000000 in
theorem c_X10_isPlace {g : GC} {p m i : Int} {sh : SH} {S : SS} {n : Nat} {Q : Option Value → GA → Nat → Prop} (hW : MdW p sh S) (hV : MpW p sh S m) (hi : -2147483648 ≤ i ∧ i ≤ 2147483647) (h1 : 0 ≤ i ∧ i < m → Q (some (.int (iI 1))) (hp g sh S) n) (h0 : ¬ (0 ≤ i ∧ i < m) → Q (some (.int (iI 0))) (hp g sh S) n) : GCall g mX10_isPlace 2 0 0 [gr g 96, .int (iI i)] (hp g sh S) n Q := by
  obtain ⟨hP, h96, hp1, p2, h97, hred⟩ := hW
  obtain ⟨q30, q31, h105, h106, hm, hmb, r105, r106⟩ := hV
  refine GCall.of (by decide) (Nat.le_of_ble_eq_true rfl) (ls := [(0, _), (1, _)]) rfl ?_
  refine G_iload_n (pc := 0) dX10_isPlace_0 rfl ?_
  refine G_iconst (pc := 1) dX10_isPlace_1 ?_
  refine S_aload_n (pc := 2) dX10_isPlace_2 rfl ?_
  refine S_getI (pc := 3) dX10_isPlace_3 fX10_284 (by assumption) rfl ?_
  rw [hm]
  refine G_iconst (pc := 6) dX10_isPlace_6 ?_
  refine G_isub (pc := 7) dX10_isPlace_7 ?_
  refine G_callS (pc := 8) (d2 := 1) (mc2 := 0) (ms2 := 0) (As := [_, _, _]) dX10_isPlace_8 kX10_in lkX10_86 rfl rfl (Nat.le_of_ble_eq_true rfl) ⟨by decide, by decide⟩ (by decide) ?_
  refine c_X10_in (by omega) (fun w8 => ?_) (fun w8 => ?_)
  · show G _ _ _ _ _ _ _ _ _ _ _ _ _
    refine G_zret (pc := 11) dX10_isPlace_11 rfl nar_z1 (by decide) ?_
    first | exact h1 (by omega) | exact h0 (by omega)
  · show G _ _ _ _ _ _ _ _ _ _ _ _ _
    refine G_zret (pc := 11) dX10_isPlace_11 rfl nar_z0 (by decide) ?_
    first | exact h1 (by omega) | exact h0 (by omega)
set_option maxRecDepth 100000 in
set_option maxHeartbeats 4000000 in
theorem c_X10_place {g : GC} {p m x : Int} {sh : SH} {S : SS} {n : Nat} {Q : Option Value → GA → Nat → Prop} (hW : MdW p sh S) (hV : MpW p sh S m) (hx : -2147483648 ≤ x ∧ x ≤ 2147483647) (h0 : m = 16 → Q (some (.int (iI (-4)))) (hp g sh S) n) (h1 : m < 16 → Q (some (.int (iI m))) (hp g sh (setF (setA (setA S 105 m (x % p)) 106 m 0) 96 29 (m + 1))) n) : GCall g mX10_place 2 0 0 [gr g 96, .int (iI x)] (hp g sh S) n Q := by
  have hW' := hW
  obtain ⟨hP, h96, hp1, p2, h97, hred⟩ := hW'
  have hV' := hV
  obtain ⟨q30, q31, h105, h106, hm, hmb, r105, r106⟩ := hV'
  refine GCall.of (by decide) (Nat.le_of_ble_eq_true rfl) (ls := [(0, _), (1, _)]) rfl ?_
  have e1 : (setA S 105 m (x % p)).1 96 29 = m := hm
  have e2 : (setA (setA S 105 m (x % p)) 106 m 0).1 96 29 = m := hm
  have e3 : (setF (setA (setA S 105 m (x % p)) 106 m 0) 96 29 (m + 1)).1 96 29 = m + 1 := setF_at
  refine S_aload_n (pc := 0) dX10_place_0 rfl ?_
  refine S_getI (pc := 1) dX10_place_1 fX10_284 (by assumption) rfl ?_
  rw [hm]
  refine G_bipush (pc := 4) dX10_place_4 rfl ?_
  refine G_icmp_ne (pc := 6) 12 dX10_place_6 rfl (by omega) (fun c6 => ?_) (fun c6 => ?_)
  · skip
    refine S_aload_n (pc := 12) dX10_place_12 rfl ?_
    refine S_getR (pc := 13) dX10_place_13 fX10_39 (by assumption) rfl (by assumption) ?_
    refine S_aload_n (pc := 16) dX10_place_16 rfl ?_
    refine S_getI (pc := 17) dX10_place_17 fX10_284 (by assumption) rfl ?_
    rw [hm]
    refine S_aload_n (pc := 20) dX10_place_20 rfl ?_
    refine G_iload_n (pc := 21) dX10_place_21 rfl ?_
    refine S_callV (pc := 22) (ci := 10) (d2 := 1) (mc2 := 0) (ms2 := 0) (As := [_]) dX10_place_22 kX10_rest lkX10_102 (by assumption) rfl rfl rfl (Nat.le_of_ble_eq_true rfl) ⟨by decide, by decide⟩ (by decide) ?_
    refine c_X10_rest hW hx ?_
    show G _ _ _ _ _ _ _ _ _ _ _ _ _
    refine S_iast (pc := 25) dX10_place_25 (by assumption) (by omega) ?_
    refine S_aload_n (pc := 26) dX10_place_26 rfl ?_
    refine S_getR (pc := 27) dX10_place_27 fX10_42 (by assumption) rfl (by assumption) ?_
    refine S_aload_n (pc := 30) dX10_place_30 rfl ?_
    refine S_getI (pc := 31) dX10_place_31 fX10_284 (by assumption) rfl ?_
    rw [e1]
    refine G_iconst (pc := 34) dX10_place_34 ?_
    refine S_iast (pc := 35) dX10_place_35 (by assumption) (by omega) ?_
    refine S_aload_n (pc := 36) dX10_place_36 rfl ?_
    refine G_dup (pc := 37) dX10_place_37 rfl ?_
    refine S_getI (pc := 38) dX10_place_38 fX10_284 (by assumption) rfl ?_
    rw [e2]
    refine G_iconst (pc := 41) dX10_place_41 ?_
    refine G_iadd (pc := 42) dX10_place_42 ?_
    refine S_putI (pc := 43) dX10_place_43 fX10_284 (by assumption) rfl ⟨rfl, rfl⟩ ?_
    refine S_aload_n (pc := 46) dX10_place_46 rfl ?_
    refine S_getI (pc := 47) dX10_place_47 fX10_284 (by assumption) rfl ?_
    rw [e3]
    refine G_iconst (pc := 50) dX10_place_50 ?_
    refine G_isub (pc := 51) dX10_place_51 ?_
    refine G_iret (pc := 52) dX10_place_52 rfl (by decide) ?_
    exact Q_i (by omega) (h1 (by omega))
  · skip
    refine G_bipush (pc := 9) dX10_place_9 rfl ?_
    refine G_iret (pc := 11) dX10_place_11 rfl (by decide) ?_
    exact h0 (by omega)
set_option maxRecDepth 100000 in
set_option maxHeartbeats 4000000 in
theorem c_X10_leave {g : GC} {p m : Int} {sh : SH} {S : SS} {n : Nat} {Q : Option Value → GA → Nat → Prop} (hW : MdW p sh S) (hV : MpW p sh S m) (hq : Q (some (.int (iI m))) (hp g sh (setF S 96 29 0)) n) : GCall g mX10_leave 1 0 0 [gr g 96] (hp g sh S) n Q := by
  obtain ⟨hP, h96, hp1, p2, h97, hred⟩ := hW
  obtain ⟨q30, q31, h105, h106, hm, hmb, r105, r106⟩ := hV
  refine GCall.of (by decide) (Nat.le_of_ble_eq_true rfl) (ls := [(0, _)]) rfl ?_
  refine S_aload_n (pc := 0) dX10_leave_0 rfl ?_
  refine S_getI (pc := 1) dX10_leave_1 fX10_284 (by assumption) rfl ?_
  rw [hm]
  refine G_istore_n (pc := 4) (ls' := [(1, _), (0, _)]) dX10_leave_4 (by decide) rfl ?_
  refine S_aload_n (pc := 5) dX10_leave_5 rfl ?_
  refine G_iconst (pc := 6) dX10_leave_6 ?_
  refine S_putI (pc := 7) dX10_leave_7 fX10_284 (by assumption) rfl ⟨rfl, rfl⟩ ?_
  refine G_iload_n (pc := 10) dX10_leave_10 rfl ?_
  refine G_iret (pc := 11) dX10_leave_11 rfl (by decide) ?_
  exact hq
set_option maxRecDepth 100000 in
set_option maxHeartbeats 4000000 in
theorem c_X10_see {g : GC} {p m i v : Int} {sh : SH} {S : SS} {n : Nat} {Q : Option Value → GA → Nat → Prop} (hW : MdW p sh S) (hV : MpW p sh S m) (hi : -2147483648 ≤ i ∧ i ≤ 2147483647) (hv : -2147483648 ≤ v ∧ v ≤ 2147483647) (h0 : ¬ (0 ≤ i ∧ i < m) → Q (some (.int (iI (-2)))) (hp g sh S) n) (h1 : 0 ≤ i ∧ i < m → Q (some (.int (iI (S.2.1 106 i)))) (hp g sh (setA S 106 i (v % p))) n) : GCall g mX10_see 3 0 0 [gr g 96, .int (iI i), .int (iI v)] (hp g sh S) n Q := by
  have hW' := hW
  obtain ⟨hP, h96, hp1, p2, h97, hred⟩ := hW'
  have hV' := hV
  obtain ⟨q30, q31, h105, h106, hm, hmb, r105, r106⟩ := hV'
  refine GCall.of (by decide) (Nat.le_of_ble_eq_true rfl) (ls := [(0, _), (1, _), (2, _)]) rfl ?_
  refine S_aload_n (pc := 0) dX10_see_0 rfl ?_
  refine G_iload_n (pc := 1) dX10_see_1 rfl ?_
  refine S_callV (pc := 2) (ci := 10) (d2 := 2) (mc2 := 0) (ms2 := 0) (As := [_]) dX10_see_2 kX10_isPlace lkX10_287 (by assumption) rfl rfl rfl (Nat.le_of_ble_eq_true rfl) ⟨by decide, by decide⟩ (by decide) ?_
  refine c_X10_isPlace hW hV (by omega) (fun w2 => ?_) (fun w2 => ?_)
  · show G _ _ _ _ _ _ _ _ _ _ _ _ _
    refine G_if_ne_t (pc := 5) 11 dX10_see_5 rfl (by decide) (by decide) ?_
    refine S_aload_n (pc := 11) dX10_see_11 rfl ?_
    refine S_getR (pc := 12) dX10_see_12 fX10_42 (by assumption) rfl (by assumption) ?_
    refine G_iload_n (pc := 15) dX10_see_15 rfl ?_
    refine S_iald (pc := 16) dX10_see_16 (by assumption) (by omega) ?_
    refine G_istore_n (pc := 17) (ls' := [(3, _), (0, _), (1, _), (2, _)]) dX10_see_17 (by decide) rfl ?_
    refine S_aload_n (pc := 18) dX10_see_18 rfl ?_
    refine S_getR (pc := 19) dX10_see_19 fX10_42 (by assumption) rfl (by assumption) ?_
    refine G_iload_n (pc := 22) dX10_see_22 rfl ?_
    refine S_aload_n (pc := 23) dX10_see_23 rfl ?_
    refine G_iload_n (pc := 24) dX10_see_24 rfl ?_
    refine S_callV (pc := 25) (ci := 10) (d2 := 1) (mc2 := 0) (ms2 := 0) (As := [_]) dX10_see_25 kX10_rest lkX10_102 (by assumption) rfl rfl rfl (Nat.le_of_ble_eq_true rfl) ⟨by decide, by decide⟩ (by decide) ?_
    refine c_X10_rest hW hv ?_
    show G _ _ _ _ _ _ _ _ _ _ _ _ _
    refine S_iast (pc := 28) dX10_see_28 (by assumption) (by omega) ?_
    refine G_iload_n (pc := 29) dX10_see_29 rfl ?_
    refine G_iret (pc := 30) dX10_see_30 rfl (by decide) ?_
    exact h1 (by omega)
  · show G _ _ _ _ _ _ _ _ _ _ _ _ _
    refine G_if_ne_f (pc := 5) 11 dX10_see_5 rfl (by decide) (by decide) ?_
    refine G_bipush (pc := 8) dX10_see_8 rfl ?_
    refine G_iret (pc := 10) dX10_see_10 rfl (by decide) ?_
    exact h0 (by omega)
set_option maxRecDepth 100000 in
set_option maxHeartbeats 4000000 in
theorem c_X10_told {g : GC} {p m i w : Int} {sh : SH} {S : SS} {n : Nat} {Q : Option Value → GA → Nat → Prop} (hW : MdW p sh S) (hV : MpW p sh S m) (hi : -2147483648 ≤ i ∧ i ≤ 2147483647) (hv : -2147483648 ≤ w ∧ w ≤ 2147483647) (h0 : ¬ ((0 ≤ i ∧ i < m) ∧ (0 ≤ w ∧ w ≤ 1)) → Q (some (.int (iI (-2)))) (hp g sh S) n) (h1 : 0 ≤ i ∧ i < m → w = 0 → Q (some (.int (iI (S.2.1 105 i)))) (hp g sh S) n) (h2 : 0 ≤ i ∧ i < m → w = 1 → Q (some (.int (iI (S.2.1 106 i)))) (hp g sh S) n) : GCall g mX10_told 3 0 0 [gr g 96, .int (iI i), .int (iI w)] (hp g sh S) n Q := by
  have hW' := hW
  obtain ⟨hP, h96, hp1, p2, h97, hred⟩ := hW'
  have hV' := hV
  obtain ⟨q30, q31, h105, h106, hm, hmb, r105, r106⟩ := hV'
  refine GCall.of (by decide) (Nat.le_of_ble_eq_true rfl) (ls := [(0, _), (1, _), (2, _)]) rfl ?_
  refine S_aload_n (pc := 0) dX10_told_0 rfl ?_
  refine G_iload_n (pc := 1) dX10_told_1 rfl ?_
  refine S_callV (pc := 2) (ci := 10) (d2 := 2) (mc2 := 0) (ms2 := 0) (As := [_]) dX10_told_2 kX10_isPlace lkX10_287 (by assumption) rfl rfl rfl (Nat.le_of_ble_eq_true rfl) ⟨by decide, by decide⟩ (by decide) ?_
  refine c_X10_isPlace hW hV (by omega) (fun w2 => ?_) (fun w2 => ?_)
  · show G _ _ _ _ _ _ _ _ _ _ _ _ _
    refine G_if_eq_f (pc := 5) 17 dX10_told_5 rfl (by decide) (by decide) ?_
    refine G_iload_n (pc := 8) dX10_told_8 rfl ?_
    refine G_iconst (pc := 9) dX10_told_9 ?_
    refine G_iconst (pc := 10) dX10_told_10 ?_
    refine G_callS (pc := 11) (d2 := 1) (mc2 := 0) (ms2 := 0) (As := [_, _, _]) dX10_told_11 kX10_in lkX10_86 rfl rfl (Nat.le_of_ble_eq_true rfl) ⟨by decide, by decide⟩ (by decide) ?_
    refine c_X10_in (by omega) (fun w11 => ?_) (fun w11 => ?_)
    · show G _ _ _ _ _ _ _ _ _ _ _ _ _
      refine G_if_ne_t (pc := 14) 22 dX10_told_14 rfl (by decide) (by decide) ?_
      refine G_iload_n (pc := 22) dX10_told_22 rfl ?_
      refine G_if_ne (pc := 23) 35 dX10_told_23 rfl (by omega) (fun c23 => ?_) (fun c23 => ?_)
      · skip
        refine S_aload_n (pc := 35) dX10_told_35 rfl ?_
        refine S_getR (pc := 36) dX10_told_36 fX10_42 (by assumption) rfl (by assumption) ?_
        refine G_iload_n (pc := 39) dX10_told_39 rfl ?_
        refine S_iald (pc := 40) dX10_told_40 (by assumption) (by omega) ?_
        refine G_iret (pc := 41) dX10_told_41 rfl (by decide) ?_
        first | exact h0 (by omega) | exact h1 (by omega) (by omega) | exact h2 (by omega) (by omega)
      · skip
        refine S_aload_n (pc := 26) dX10_told_26 rfl ?_
        refine S_getR (pc := 27) dX10_told_27 fX10_39 (by assumption) rfl (by assumption) ?_
        refine G_iload_n (pc := 30) dX10_told_30 rfl ?_
        refine S_iald (pc := 31) dX10_told_31 (by assumption) (by omega) ?_
        refine G_goto (pc := 32) 41 dX10_told_32 rfl ?_
        refine G_iret (pc := 41) dX10_told_41 rfl (by decide) ?_
        first | exact h0 (by omega) | exact h1 (by omega) (by omega) | exact h2 (by omega) (by omega)
    · show G _ _ _ _ _ _ _ _ _ _ _ _ _
      refine G_if_ne_f (pc := 14) 22 dX10_told_14 rfl (by decide) (by decide) ?_
      refine G_bipush (pc := 17) dX10_told_17 rfl ?_
      refine G_goto (pc := 19) 41 dX10_told_19 rfl ?_
      refine G_iret (pc := 41) dX10_told_41 rfl (by decide) ?_
      first | exact h0 (by omega) | exact h1 (by omega) (by omega) | exact h2 (by omega) (by omega)
  · show G _ _ _ _ _ _ _ _ _ _ _ _ _
    refine G_if_eq_t (pc := 5) 17 dX10_told_5 rfl (by decide) (by decide) ?_
    refine G_bipush (pc := 17) dX10_told_17 rfl ?_
    refine G_goto (pc := 19) 41 dX10_told_19 rfl ?_
    refine G_iret (pc := 41) dX10_told_41 rfl (by decide) ?_
    first | exact h0 (by omega) | exact h1 (by omega) (by omega) | exact h2 (by omega) (by omega)
set_option maxRecDepth 100000 in
set_option maxHeartbeats 4000000 in
theorem c_X10_value {g : GC} {p m a i : Int} {sh : SH} {S : SS} {n : Nat} {Q : Option Value → GA → Nat → Prop} (hW : MdW p sh S) (hV : MpW p sh S m) (hi : -2147483648 ≤ i ∧ i ≤ 2147483647) (ha : -2147483648 ≤ a ∧ a ≤ 2147483647) (h0 : ¬ ((0 ≤ a ∧ a < 8) ∧ (0 ≤ i ∧ i < m)) → Q (some (.int (iI (-2)))) (hp g sh S) n) (h1 : (0 ≤ a ∧ a < 8) → (0 ≤ i ∧ i < m) → Q (some (.int (iI (ev (mg S a) (S.2.1 105 i) 80 % p)))) (hp g sh S) n) : GCall g mX10_value 3 0 0 [gr g 96, .int (iI a), .int (iI i)] (hp g sh S) n Q := by
  have hW' := hW
  obtain ⟨hP, h96, hp1, p2, h97, hred⟩ := hW'
  have hV' := hV
  obtain ⟨q30, q31, h105, h106, hm, hmb, r105, r106⟩ := hV'
  refine GCall.of (by decide) (Nat.le_of_ble_eq_true rfl) (ls := [(0, _), (1, _), (2, _)]) rfl ?_
  have hs := r105 i
  refine G_iload_n (pc := 0) dX10_value_0 rfl ?_
  refine G_callS (pc := 1) (d2 := 2) (mc2 := 0) (ms2 := 0) (As := [_]) dX10_value_1 kX10_isPoly lkX10_98 rfl rfl (Nat.le_of_ble_eq_true rfl) ⟨by decide, by decide⟩ (by decide) ?_
  refine c_X10_isPoly (by omega) (fun w1 => ?_) (fun w1 => ?_)
  · show G _ _ _ _ _ _ _ _ _ _ _ _ _
    refine G_if_eq_f (pc := 4) 29 dX10_value_4 rfl (by decide) (by decide) ?_
    refine S_aload_n (pc := 7) dX10_value_7 rfl ?_
    refine G_iload_n (pc := 8) dX10_value_8 rfl ?_
    refine S_callV (pc := 9) (ci := 10) (d2 := 2) (mc2 := 0) (ms2 := 0) (As := [_]) dX10_value_9 kX10_isPlace lkX10_287 (by assumption) rfl rfl rfl (Nat.le_of_ble_eq_true rfl) ⟨by decide, by decide⟩ (by decide) ?_
    refine c_X10_isPlace hW hV (by omega) (fun w9 => ?_) (fun w9 => ?_)
    · show G _ _ _ _ _ _ _ _ _ _ _ _ _
      refine G_if_eq_f (pc := 12) 29 dX10_value_12 rfl (by decide) (by decide) ?_
      refine S_aload_n (pc := 15) dX10_value_15 rfl ?_
      refine G_iload_n (pc := 16) dX10_value_16 rfl ?_
      refine S_aload_n (pc := 17) dX10_value_17 rfl ?_
      refine S_getR (pc := 18) dX10_value_18 fX10_39 (by assumption) rfl (by assumption) ?_
      refine G_iload_n (pc := 21) dX10_value_21 rfl ?_
      refine S_iald (pc := 22) dX10_value_22 (by assumption) (by omega) ?_
      refine S_callV (pc := 23) (ci := 10) (d2 := 2) (mc2 := 0) (ms2 := 0) (As := [_, _]) dX10_value_23 kX10_worth lkX10_281 (by assumption) rfl rfl rfl (Nat.le_of_ble_eq_true rfl) ⟨by decide, by decide⟩ (by decide) ?_
      refine c_X10_worth hW (by omega) hs ?_
      show G _ _ _ _ _ _ _ _ _ _ _ _ _
      refine G_goto (pc := 26) 31 dX10_value_26 rfl ?_
      refine G_iret (pc := 31) dX10_value_31 rfl (by decide) ?_
      first | exact h0 (by omega) | exact h1 (by omega) (by omega)
    · show G _ _ _ _ _ _ _ _ _ _ _ _ _
      refine G_if_eq_t (pc := 12) 29 dX10_value_12 rfl (by decide) (by decide) ?_
      refine G_bipush (pc := 29) dX10_value_29 rfl ?_
      refine G_iret (pc := 31) dX10_value_31 rfl (by decide) ?_
      first | exact h0 (by omega) | exact h1 (by omega) (by omega)
  · show G _ _ _ _ _ _ _ _ _ _ _ _ _
    refine G_if_eq_t (pc := 4) 29 dX10_value_4 rfl (by decide) (by decide) ?_
    refine G_bipush (pc := 29) dX10_value_29 rfl ?_
    refine G_iret (pc := 31) dX10_value_31 rfl (by decide) ?_
    first | exact h0 (by omega) | exact h1 (by omega) (by omega)
