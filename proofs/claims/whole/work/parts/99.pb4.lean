/-! PolyBench: places -/
theorem Row_pA {p : Int} {sh : SH} {S : SS} {a b N : Nat} {xs : Int → Int} (h : Row p sh S a N) (hb : a + 1 ≠ b) : Row p sh (putA S b xs) a N := by
  have e : rv (putA S b xs) a = rv S a := putA_ne hb
  exact ⟨h.1, h.2.1, by rw [e]; exact h.2.2.1, by rw [e]; exact h.2.2.2.1, by rw [e]; exact h.2.2.2.2⟩
theorem Row_sF {p : Int} {sh : SH} {S : SS} {a b k N : Nat} {v : Int} (h : Row p sh S a N) (hb : a ≠ b ∨ k ≠ 1) : Row p sh (setF S b k v) a N :=
  ⟨h.1, h.2.1, by rw [setF_ne (by omega)]; exact h.2.2.1, h.2.2.2.1, h.2.2.2.2⟩
theorem PlW_app {p m x : Int} {sh : SH} {S : SS} (hL : PlW p sh S m) (hm16 : m < 16) (hx : 0 ≤ x ∧ x < p) (hp0 : 0 < p) : PlW p sh (setF (setA (setA S 31 m x) 32 m 0) 30 4 (m + 1)) (m + 1) := by
  obtain ⟨h30, p0, p1, p2, p3, p5, p6, h31, h32, hm, hmb, r31, r32, R33, R35⟩ := hL
  refine ⟨h30, p0, p1, p2, p3, p5, p6, h31, h32, setF_at, by omega, ?_, ?_, ?_, ?_⟩
  · show Red p ((putA (setA S 31 m x) 32 _).2.1 31)
    rw [putA_ne (by decide)]
    show Red p ((putA S 31 (iup (S.2.1 31) m x)).2.1 31)
    rw [putA_at]; exact Red_iup r31 hx
  · show Red p ((putA (setA S 31 m x) 32 (iup ((putA S 31 (iup (S.2.1 31) m x)).2.1 32) m 0)).2.1 32)
    rw [putA_at, putA_ne (by decide)]; exact Red_iup r32 ⟨Int.le_refl _, hp0⟩
  · exact Row_sF (Row_pA (Row_pA R33 (by decide)) (by decide)) (by decide)
  · exact Row_sF (Row_pA (Row_pA R35 (by decide)) (by decide)) (by decide)
set_option maxRecDepth 100000 in
set_option maxHeartbeats 4000000 in
theorem c_X9_isPlace {g : GC} {p m i : Int} {sh : SH} {S : SS} {n : Nat} {Q : Option Value → GA → Nat → Prop} (hW : PbW p sh S) (hL : PlW p sh S m) (hr : -2147483648 ≤ i ∧ i ≤ 2147483647) (h1 : 0 ≤ i ∧ i < m → Q (some (.int (iI 1))) (hp g sh S) n) (h0 : ¬ (0 ≤ i ∧ i < m) → Q (some (.int (iI 0))) (hp g sh S) n) : GCall g mX9_isPlace 2 0 0 [gr g 0, .int (iI i)] (hp g sh S) n Q := by
  have hW' := hW
  obtain ⟨hK, hA, hMd, hPo⟩ := hW'
  obtain ⟨k0, q0, q1, q2, q3, q4, q7, q8, q9, q12, q13, q14, s1, s4, s9, s10, s11, f1, f2, f3⟩ := hK
  have hP := hA.1.1
  have hRs := hA.1.2.1
  have hpb := hP.bd
  have h12 := hRs.1
  have h13 := hA.1.2.2.1
  have h2s := hMd.1.1
  have hL' := hL
  obtain ⟨h30, -, -, -, -, -, -, -, -, hm, hmb, r31, r32, R33, R35⟩ := hL'
  refine GCall.of (by decide) (Nat.le_of_ble_eq_true rfl) (ls := [(0, _), (1, _)]) rfl ?_
  refine G_iload_n (pc := 0) dX9_isPlace_0 rfl ?_
  refine S_aload_n (pc := 1) dX9_isPlace_1 rfl ?_
  refine S_getR (pc := 2) dX9_isPlace_2 fX9_72 (by assumption) rfl (by assumption) ?_
  refine S_callV (pc := 5) (ci := 2) (d2 := 1) (mc2 := 0) (ms2 := 0) (As := []) dX9_isPlace_5 kX2_size lkX9_207 (by assumption) rfl rfl rfl (Nat.le_of_ble_eq_true rfl) ⟨by decide, by decide⟩ (by decide) ?_
  refine c_X2_size hL ?_
  show G _ _ _ _ _ _ _ _ _ _ _ _ _
  refine G_callS (pc := 8) (d2 := 1) (mc2 := 0) (ms2 := 0) (As := [_, _]) dX9_isPlace_8 kX9_isWithin lkX9_111 rfl rfl (Nat.le_of_ble_eq_true rfl) ⟨by decide, by decide⟩ (by decide) ?_
  refine c_X9_isWithin (by omega) (fun w8 => ?_) (fun w8 => ?_)
  · show G _ _ _ _ _ _ _ _ _ _ _ _ _
    refine G_zret (pc := 11) dX9_isPlace_11 rfl nar_z1 (by decide) ?_
    first | exact h1 w8 | exact h0 w8
  · show G _ _ _ _ _ _ _ _ _ _ _ _ _
    refine G_zret (pc := 11) dX9_isPlace_11 rfl nar_z0 (by decide) ?_
    first | exact h1 w8 | exact h0 w8
set_option maxRecDepth 100000 in
set_option maxHeartbeats 4000000 in
theorem c_X9_place {g : GC} {p m x : Int} {sh : SH} {S : SS} {n : Nat} {Q : Option Value → GA → Nat → Prop} (hW : PbW p sh S) (hL : PlW p sh S m) (hr : -2147483648 ≤ x ∧ x ≤ 2147483647) (h0 : m = 16 → Q (some (.int (iI (-4)))) (hp g sh S) n) (h1 : m < 16 → Q (some (.int (iI m))) (hp g sh (setF (setA (setA S 31 m (x % p)) 32 m 0) 30 4 (m + 1))) n) : GCall g mX9_place 2 0 0 [gr g 0, .int (iI x)] (hp g sh S) n Q := by
  have hW' := hW
  obtain ⟨hK, hA, hMd, hPo⟩ := hW'
  obtain ⟨k0, q0, q1, q2, q3, q4, q7, q8, q9, q12, q13, q14, s1, s4, s9, s10, s11, f1, f2, f3⟩ := hK
  have hP := hA.1.1
  have hRs := hA.1.2.1
  have hpb := hP.bd
  have h12 := hRs.1
  have h13 := hA.1.2.2.1
  have h2s := hMd.1.1
  have hL' := hL
  obtain ⟨h30, -, -, -, -, -, -, -, -, hm, hmb, r31, r32, R33, R35⟩ := hL'
  refine GCall.of (by decide) (Nat.le_of_ble_eq_true rfl) (ls := [(0, _), (1, _)]) rfl ?_
  have hv := Int.emod_nonneg x (show p ≠ 0 by omega)
  have hv2 := Int.emod_lt_of_pos x (show 0 < p by omega)
  have Kf : m < 16 → G g mX9_place 2 0 0 31 [(0, gr g 0), (1, .int (iI x))] [] (hp g sh (setF (setA (setA S 31 m (x % p)) 32 m 0) 30 4 (m + 1))) n 0 0 Q := by
    intro c
    have hq := h1 c
    have hL2 : PlW p sh (setF (setA (setA S 31 m (x % p)) 32 m 0) 30 4 (m + 1)) (m + 1) := PlW_app hL c ⟨hv, hv2⟩ (by omega)
    refine S_aload_n (pc := 31) dX9_place_31 rfl ?_
    refine S_getR (pc := 32) dX9_place_32 fX9_72 (by assumption) rfl (by assumption) ?_
    refine S_callV (pc := 35) (ci := 2) (d2 := 1) (mc2 := 0) (ms2 := 0) (As := []) dX9_place_35 kX2_size lkX9_207 (by assumption) rfl rfl rfl (Nat.le_of_ble_eq_true rfl) ⟨by decide, by decide⟩ (by decide) ?_
    refine c_X2_size hL2 ?_
    show G _ _ _ _ _ _ _ _ _ _ _ _ _
    refine G_iconst (pc := 38) dX9_place_38 ?_
    refine G_isub (pc := 39) dX9_place_39 ?_
    refine G_iret (pc := 40) dX9_place_40 rfl (by decide) ?_
    rw [show m + 1 - 1 = m by omega]
    exact hq
  refine S_aload_n (pc := 0) dX9_place_0 rfl ?_
  refine S_getR (pc := 1) dX9_place_1 fX9_72 (by assumption) rfl (by assumption) ?_
  refine S_callV (pc := 4) (ci := 2) (d2 := 1) (mc2 := 0) (ms2 := 0) (As := []) dX9_place_4 kX2_size lkX9_207 (by assumption) rfl rfl rfl (Nat.le_of_ble_eq_true rfl) ⟨by decide, by decide⟩ (by decide) ?_
  refine c_X2_size hL ?_
  show G _ _ _ _ _ _ _ _ _ _ _ _ _
  refine G_bipush (pc := 7) dX9_place_7 rfl ?_
  refine G_icmp_lt (pc := 9) 15 dX9_place_9 rfl (by omega) (fun c9 => ?_) (fun c9 => ?_)
  · skip
    refine S_aload_n (pc := 15) dX9_place_15 rfl ?_
    refine S_getR (pc := 16) dX9_place_16 fX9_72 (by assumption) rfl (by assumption) ?_
    refine S_aload_n (pc := 19) dX9_place_19 rfl ?_
    refine S_getR (pc := 20) dX9_place_20 fX9_54 (by assumption) rfl (by assumption) ?_
    refine G_iload_n (pc := 23) dX9_place_23 rfl ?_
    refine G_i2l (pc := 24) dX9_place_24 (by omega) ?_
    refine S_callV (pc := 25) (ci := 3) (d2 := 1) (mc2 := 0) (ms2 := 0) (As := [_]) dX9_place_25 kX3_rest lkX9_119 (by assumption) rfl rfl rfl (Nat.le_of_ble_eq_true rfl) ⟨by decide, by decide⟩ (by decide) ?_
    refine c_X3_rest hRs hP (by omega) ?_
    show G _ _ _ _ _ _ _ _ _ _ _ _ _
    refine S_callV (pc := 28) (ci := 2) (d2 := 1) (mc2 := 0) (ms2 := 0) (As := [_]) dX9_place_28 kX2_append lkX9_208 (by assumption) rfl rfl rfl (Nat.le_of_ble_eq_true rfl) ⟨by decide, by decide⟩ (by decide) ?_
    refine c_X2_append hL (by omega) ?_
    show G _ _ _ _ _ _ _ _ _ _ _ _ _
    exact Kf (by omega)
  · skip
    refine G_bipush (pc := 12) dX9_place_12 rfl ?_
    refine G_iret (pc := 14) dX9_place_14 rfl (by decide) ?_
    exact h0 (by omega)
set_option maxRecDepth 100000 in
set_option maxHeartbeats 4000000 in
theorem c_X9_leave {g : GC} {p m : Int} {sh : SH} {S : SS} {n : Nat} {Q : Option Value → GA → Nat → Prop} (hW : PbW p sh S) (hL : PlW p sh S m) (hq : Q (some (.int (iI m))) (hp g sh (setF S 30 4 0)) n) : GCall g mX9_leave 2 0 0 [gr g 0] (hp g sh S) n Q := by
  have hW' := hW
  obtain ⟨hK, hA, hMd, hPo⟩ := hW'
  obtain ⟨k0, q0, q1, q2, q3, q4, q7, q8, q9, q12, q13, q14, s1, s4, s9, s10, s11, f1, f2, f3⟩ := hK
  have hP := hA.1.1
  have hRs := hA.1.2.1
  have hpb := hP.bd
  have h12 := hRs.1
  have h13 := hA.1.2.2.1
  have h2s := hMd.1.1
  have hL' := hL
  obtain ⟨h30, -, -, -, -, -, -, -, -, hm, hmb, r31, r32, R33, R35⟩ := hL'
  refine GCall.of (by decide) (Nat.le_of_ble_eq_true rfl) (ls := [(0, _)]) rfl ?_
  refine S_aload_n (pc := 0) dX9_leave_0 rfl ?_
  refine S_getR (pc := 1) dX9_leave_1 fX9_72 (by assumption) rfl (by assumption) ?_
  refine S_callV (pc := 4) (ci := 2) (d2 := 1) (mc2 := 0) (ms2 := 0) (As := []) dX9_leave_4 kX2_size lkX9_207 (by assumption) rfl rfl rfl (Nat.le_of_ble_eq_true rfl) ⟨by decide, by decide⟩ (by decide) ?_
  refine c_X2_size hL ?_
  show G _ _ _ _ _ _ _ _ _ _ _ _ _
  refine G_istore_n (pc := 7) (ls' := [(1, _), (0, _)]) dX9_leave_7 (by decide) rfl ?_
  refine S_aload_n (pc := 8) dX9_leave_8 rfl ?_
  refine S_getR (pc := 9) dX9_leave_9 fX9_72 (by assumption) rfl (by assumption) ?_
  refine S_callV (pc := 12) (ci := 2) (d2 := 1) (mc2 := 0) (ms2 := 0) (As := []) dX9_leave_12 kX2_wipe lkX9_210 (by assumption) rfl rfl rfl (Nat.le_of_ble_eq_true rfl) ⟨by decide, by decide⟩ (by decide) ?_
  refine c_X2_wipe hL ?_
  show G _ _ _ _ _ _ _ _ _ _ _ _ _
  refine G_iload_n (pc := 15) dX9_leave_15 rfl ?_
  refine G_iret (pc := 16) dX9_leave_16 rfl (by decide) ?_
  exact hq
set_option maxRecDepth 100000 in
set_option maxHeartbeats 4000000 in
theorem c_X9_see {g : GC} {p m i v : Int} {sh : SH} {S : SS} {n : Nat} {Q : Option Value → GA → Nat → Prop} (hW : PbW p sh S) (hL : PlW p sh S m) (hr : (-2147483648 ≤ i ∧ i ≤ 2147483647) ∧ (-2147483648 ≤ v ∧ v ≤ 2147483647)) (h0 : ¬ (0 ≤ i ∧ i < m) → Q (some (.int (iI (-2)))) (hp g sh S) n) (h1 : 0 ≤ i ∧ i < m → Q (some (.int (iI (S.2.1 32 i)))) (hp g sh (setA S 32 i (v % p))) n) : GCall g mX9_see 3 0 0 [gr g 0, .int (iI i), .int (iI v)] (hp g sh S) n Q := by
  have hW' := hW
  obtain ⟨hK, hA, hMd, hPo⟩ := hW'
  obtain ⟨k0, q0, q1, q2, q3, q4, q7, q8, q9, q12, q13, q14, s1, s4, s9, s10, s11, f1, f2, f3⟩ := hK
  have hP := hA.1.1
  have hRs := hA.1.2.1
  have hpb := hP.bd
  have h12 := hRs.1
  have h13 := hA.1.2.2.1
  have h2s := hMd.1.1
  have hL' := hL
  obtain ⟨h30, -, -, -, -, -, -, -, -, hm, hmb, r31, r32, R33, R35⟩ := hL'
  refine GCall.of (by decide) (Nat.le_of_ble_eq_true rfl) (ls := [(0, _), (1, _), (2, _)]) rfl ?_
  refine S_aload_n (pc := 0) dX9_see_0 rfl ?_
  refine G_iload_n (pc := 1) dX9_see_1 rfl ?_
  refine S_callV (pc := 2) (ci := 9) (d2 := 2) (mc2 := 0) (ms2 := 0) (As := [_]) dX9_see_2 kX9_isPlace lkX9_211 (by assumption) rfl rfl rfl (Nat.le_of_ble_eq_true rfl) ⟨by decide, by decide⟩ (by decide) ?_
  refine c_X9_isPlace hW hL (by omega) (fun w2 => ?_) (fun w2 => ?_)
  · show G _ _ _ _ _ _ _ _ _ _ _ _ _
    refine G_if_ne_t (pc := 5) 11 dX9_see_5 rfl (by decide) (by decide) ?_
    refine S_aload_n (pc := 11) dX9_see_11 rfl ?_
    refine S_getR (pc := 12) dX9_see_12 fX9_72 (by assumption) rfl (by assumption) ?_
    refine G_iload_n (pc := 15) dX9_see_15 rfl ?_
    refine S_callV (pc := 16) (ci := 2) (d2 := 2) (mc2 := 0) (ms2 := 0) (As := [_]) dX9_see_16 kX2_valueOf lkX9_214 (by assumption) rfl rfl rfl (Nat.le_of_ble_eq_true rfl) ⟨by decide, by decide⟩ (by decide) ?_
    refine c_X2_valueOf hL (by omega) ?_
    rw [itm_in w2]
    show G _ _ _ _ _ _ _ _ _ _ _ _ _
    refine G_istore_n (pc := 19) (ls' := [(3, _), (0, _), (1, _), (2, _)]) dX9_see_19 (by decide) rfl ?_
    refine S_aload_n (pc := 20) dX9_see_20 rfl ?_
    refine S_getR (pc := 21) dX9_see_21 fX9_72 (by assumption) rfl (by assumption) ?_
    refine G_iload_n (pc := 24) dX9_see_24 rfl ?_
    refine S_aload_n (pc := 25) dX9_see_25 rfl ?_
    refine S_getR (pc := 26) dX9_see_26 fX9_54 (by assumption) rfl (by assumption) ?_
    refine G_iload_n (pc := 29) dX9_see_29 rfl ?_
    refine G_i2l (pc := 30) dX9_see_30 (by omega) ?_
    refine S_callV (pc := 31) (ci := 3) (d2 := 1) (mc2 := 0) (ms2 := 0) (As := [_]) dX9_see_31 kX3_rest lkX9_119 (by assumption) rfl rfl rfl (Nat.le_of_ble_eq_true rfl) ⟨by decide, by decide⟩ (by decide) ?_
    refine c_X3_rest hRs hP (by omega) ?_
    show G _ _ _ _ _ _ _ _ _ _ _ _ _
    refine S_callV (pc := 34) (ci := 2) (d2 := 2) (mc2 := 0) (ms2 := 0) (As := [_, _]) dX9_see_34 kX2_give lkX9_217 (by assumption) rfl rfl rfl (Nat.le_of_ble_eq_true rfl) ⟨by decide, by decide⟩ (by decide) ?_
    refine c_X2_give hL w2 ?_
    show G _ _ _ _ _ _ _ _ _ _ _ _ _
    refine G_iload_n (pc := 37) dX9_see_37 rfl ?_
    refine G_iret (pc := 38) dX9_see_38 rfl (by decide) ?_
    first | exact h0 w2 | exact h1 w2
  · show G _ _ _ _ _ _ _ _ _ _ _ _ _
    refine G_if_ne_f (pc := 5) 11 dX9_see_5 rfl (by decide) (by decide) ?_
    refine G_bipush (pc := 8) dX9_see_8 rfl ?_
    refine G_iret (pc := 10) dX9_see_10 rfl (by decide) ?_
    first | exact h0 w2 | exact h1 w2
set_option maxRecDepth 100000 in
set_option maxHeartbeats 4000000 in
theorem c_X9_told {g : GC} {p m i w : Int} {sh : SH} {S : SS} {n : Nat} {Q : Option Value → GA → Nat → Prop} (hW : PbW p sh S) (hL : PlW p sh S m) (hr : (-2147483648 ≤ i ∧ i ≤ 2147483647) ∧ (-2147483648 ≤ w ∧ w ≤ 2147483647)) (h0 : ¬ ((0 ≤ i ∧ i < m) ∧ (0 ≤ w ∧ w ≤ 1)) → Q (some (.int (iI (-2)))) (hp g sh S) n) (h1 : 0 ≤ i ∧ i < m → w = 0 → Q (some (.int (iI (S.2.1 31 i)))) (hp g sh S) n) (h2 : 0 ≤ i ∧ i < m → w = 1 → Q (some (.int (iI (S.2.1 32 i)))) (hp g sh S) n) : GCall g mX9_told 3 0 0 [gr g 0, .int (iI i), .int (iI w)] (hp g sh S) n Q := by
  have hW' := hW
  obtain ⟨hK, hA, hMd, hPo⟩ := hW'
  obtain ⟨k0, q0, q1, q2, q3, q4, q7, q8, q9, q12, q13, q14, s1, s4, s9, s10, s11, f1, f2, f3⟩ := hK
  have hP := hA.1.1
  have hRs := hA.1.2.1
  have hpb := hP.bd
  have h12 := hRs.1
  have h13 := hA.1.2.2.1
  have h2s := hMd.1.1
  have hL' := hL
  obtain ⟨h30, -, -, -, -, -, -, -, -, hm, hmb, r31, r32, R33, R35⟩ := hL'
  refine GCall.of (by decide) (Nat.le_of_ble_eq_true rfl) (ls := [(0, _), (1, _), (2, _)]) rfl ?_
  refine S_aload_n (pc := 0) dX9_told_0 rfl ?_
  refine G_iload_n (pc := 1) dX9_told_1 rfl ?_
  refine S_callV (pc := 2) (ci := 9) (d2 := 2) (mc2 := 0) (ms2 := 0) (As := [_]) dX9_told_2 kX9_isPlace lkX9_211 (by assumption) rfl rfl rfl (Nat.le_of_ble_eq_true rfl) ⟨by decide, by decide⟩ (by decide) ?_
  refine c_X9_isPlace hW hL (by omega) (fun w2 => ?_) (fun w2 => ?_)
  · show G _ _ _ _ _ _ _ _ _ _ _ _ _
    refine G_if_eq_f (pc := 5) 16 dX9_told_5 rfl (by decide) (by decide) ?_
    refine G_iload_n (pc := 8) dX9_told_8 rfl ?_
    refine G_iconst (pc := 9) dX9_told_9 ?_
    refine G_callS (pc := 10) (d2 := 1) (mc2 := 0) (ms2 := 0) (As := [_, _]) dX9_told_10 kX9_isWithin lkX9_111 rfl rfl (Nat.le_of_ble_eq_true rfl) ⟨by decide, by decide⟩ (by decide) ?_
    refine c_X9_isWithin (by omega) (fun w10 => ?_) (fun w10 => ?_)
    · show G _ _ _ _ _ _ _ _ _ _ _ _ _
      refine G_if_ne_t (pc := 13) 19 dX9_told_13 rfl (by decide) (by decide) ?_
      refine G_iload_n (pc := 19) dX9_told_19 rfl ?_
      refine G_if_ne (pc := 20) 34 dX9_told_20 rfl (by omega) (fun c20 => ?_) (fun c20 => ?_)
      · skip
        refine S_aload_n (pc := 34) dX9_told_34 rfl ?_
        refine S_getR (pc := 35) dX9_told_35 fX9_72 (by assumption) rfl (by assumption) ?_
        refine G_iload_n (pc := 38) dX9_told_38 rfl ?_
        refine S_callV (pc := 39) (ci := 2) (d2 := 2) (mc2 := 0) (ms2 := 0) (As := [_]) dX9_told_39 kX2_valueOf lkX9_214 (by assumption) rfl rfl rfl (Nat.le_of_ble_eq_true rfl) ⟨by decide, by decide⟩ (by decide) ?_
        refine c_X2_valueOf hL (by omega) ?_
        rw [itm_in w2]
        show G _ _ _ _ _ _ _ _ _ _ _ _ _
        refine G_iret (pc := 42) dX9_told_42 rfl (by decide) ?_
        first | exact h0 (by omega) | exact h1 w2 (by omega) | exact h2 w2 (by omega)
      · skip
        refine S_aload_n (pc := 23) dX9_told_23 rfl ?_
        refine S_getR (pc := 24) dX9_told_24 fX9_72 (by assumption) rfl (by assumption) ?_
        refine G_iload_n (pc := 27) dX9_told_27 rfl ?_
        refine S_callV (pc := 28) (ci := 2) (d2 := 2) (mc2 := 0) (ms2 := 0) (As := [_]) dX9_told_28 kX2_numberOf lkX9_220 (by assumption) rfl rfl rfl (Nat.le_of_ble_eq_true rfl) ⟨by decide, by decide⟩ (by decide) ?_
        refine c_X2_numberOf hL (by omega) ?_
        rw [itm_in w2]
        show G _ _ _ _ _ _ _ _ _ _ _ _ _
        refine G_goto (pc := 31) 42 dX9_told_31 rfl ?_
        refine G_iret (pc := 42) dX9_told_42 rfl (by decide) ?_
        first | exact h0 (by omega) | exact h1 w2 (by omega) | exact h2 w2 (by omega)
    · show G _ _ _ _ _ _ _ _ _ _ _ _ _
      refine G_if_ne_f (pc := 13) 19 dX9_told_13 rfl (by decide) (by decide) ?_
      refine G_bipush (pc := 16) dX9_told_16 rfl ?_
      refine G_iret (pc := 18) dX9_told_18 rfl (by decide) ?_
      first | exact h0 (by omega) | exact h1 w2 (by omega) | exact h2 w2 (by omega)
  · show G _ _ _ _ _ _ _ _ _ _ _ _ _
    refine G_if_eq_t (pc := 5) 16 dX9_told_5 rfl (by decide) (by decide) ?_
    refine G_bipush (pc := 16) dX9_told_16 rfl ?_
    refine G_iret (pc := 18) dX9_told_18 rfl (by decide) ?_
    first | exact h0 (by omega) | exact h1 w2 (by omega) | exact h2 w2 (by omega)
set_option maxRecDepth 100000 in
set_option maxHeartbeats 4000000 in
theorem c_X9_value {g : GC} {p m a i : Int} {sh : SH} {S : SS} {n : Nat} {Q : Option Value → GA → Nat → Prop} (hW : PbW p sh S) (hL : PlW p sh S m) (hr : (-2147483648 ≤ a ∧ a ≤ 2147483647) ∧ (-2147483648 ≤ i ∧ i ≤ 2147483647)) (h0 : ¬ ((0 ≤ a ∧ a < 8) ∧ (0 ≤ i ∧ i < m)) → Q (some (.int (iI (-2)))) (hp g sh S) n) (h1 : (0 ≤ a ∧ a < 8) → (0 ≤ i ∧ i < m) → Q (some (.int (iI (ev (pr S a) (S.2.1 31 i) 32 % p)))) (hp g sh S) n) : GCall g mX9_value 3 0 0 [gr g 0, .int (iI a), .int (iI i)] (hp g sh S) n Q := by
  have hW' := hW
  obtain ⟨hK, hA, hMd, hPo⟩ := hW'
  obtain ⟨k0, q0, q1, q2, q3, q4, q7, q8, q9, q12, q13, q14, s1, s4, s9, s10, s11, f1, f2, f3⟩ := hK
  have hP := hA.1.1
  have hRs := hA.1.2.1
  have hpb := hP.bd
  have h12 := hRs.1
  have h13 := hA.1.2.2.1
  have h2s := hMd.1.1
  have hL' := hL
  obtain ⟨h30, -, -, -, -, -, -, -, -, hm, hmb, r31, r32, R33, R35⟩ := hL'
  refine GCall.of (by decide) (Nat.le_of_ble_eq_true rfl) (ls := [(0, _), (1, _), (2, _)]) rfl ?_
  have hx := r31 i
  refine G_iload_n (pc := 0) dX9_value_0 rfl ?_
  refine G_callS (pc := 1) (d2 := 2) (mc2 := 0) (ms2 := 0) (As := [_]) dX9_value_1 kX9_isPoly lkX9_107 rfl rfl (Nat.le_of_ble_eq_true rfl) ⟨by decide, by decide⟩ (by decide) ?_
  refine c_X9_isPoly (by omega) (fun w1 => ?_) (fun w1 => ?_)
  · show G _ _ _ _ _ _ _ _ _ _ _ _ _
    refine G_if_eq_f (pc := 4) 15 dX9_value_4 rfl (by decide) (by decide) ?_
    refine S_aload_n (pc := 7) dX9_value_7 rfl ?_
    refine G_iload_n (pc := 8) dX9_value_8 rfl ?_
    refine S_callV (pc := 9) (ci := 9) (d2 := 2) (mc2 := 0) (ms2 := 0) (As := [_]) dX9_value_9 kX9_isPlace lkX9_211 (by assumption) rfl rfl rfl (Nat.le_of_ble_eq_true rfl) ⟨by decide, by decide⟩ (by decide) ?_
    refine c_X9_isPlace hW hL (by omega) (fun w9 => ?_) (fun w9 => ?_)
    · show G _ _ _ _ _ _ _ _ _ _ _ _ _
      refine G_if_ne_t (pc := 12) 18 dX9_value_12 rfl (by decide) (by decide) ?_
      refine S_aload_n (pc := 18) dX9_value_18 rfl ?_
      refine S_getR (pc := 19) dX9_value_19 fX9_63 (by assumption) rfl (by assumption) ?_
      refine S_aload_n (pc := 22) dX9_value_22 rfl ?_
      refine S_getR (pc := 23) dX9_value_23 fX9_11 (by assumption) rfl (by assumption) ?_
      refine G_iload_n (pc := 26) dX9_value_26 rfl ?_
      refine S_aald (pc := 27) dX9_value_27 (by assumption) rfl (by omega) (f1 _ w1.1 w1.2) ?_
      refine S_aload_n (pc := 28) dX9_value_28 rfl ?_
      refine S_getR (pc := 29) dX9_value_29 fX9_72 (by assumption) rfl (by assumption) ?_
      refine G_iload_n (pc := 32) dX9_value_32 rfl ?_
      refine S_callV (pc := 33) (ci := 2) (d2 := 2) (mc2 := 0) (ms2 := 0) (As := [_]) dX9_value_33 kX2_numberOf lkX9_220 (by assumption) rfl rfl rfl (Nat.le_of_ble_eq_true rfl) ⟨by decide, by decide⟩ (by decide) ?_
      refine c_X2_numberOf hL (by omega) ?_
      rw [itm_in w9]
      show G _ _ _ _ _ _ _ _ _ _ _ _ _
      refine S_callV (pc := 36) (ci := 0) (d2 := 2) (mc2 := 0) (ms2 := 0) (As := [_, _]) dX9_value_36 kX0_evaluated lkX9_223 (by assumption) rfl rfl rfl (Nat.le_of_ble_eq_true rfl) ⟨by decide, by decide⟩ (by decide) ?_
      refine c_X0_evaluated hW.2.1.1 (hPo a w1.1 w1.2) hx ?_
      show G _ _ _ _ _ _ _ _ _ _ _ _ _
      refine G_iret (pc := 39) dX9_value_39 rfl (by decide) ?_
      first | exact h0 (by omega) | exact h1 w1 w9
    · show G _ _ _ _ _ _ _ _ _ _ _ _ _
      refine G_if_ne_f (pc := 12) 18 dX9_value_12 rfl (by decide) (by decide) ?_
      refine G_bipush (pc := 15) dX9_value_15 rfl ?_
      refine G_iret (pc := 17) dX9_value_17 rfl (by decide) ?_
      first | exact h0 (by omega) | exact h1 w1 w9
  · show G _ _ _ _ _ _ _ _ _ _ _ _ _
    refine G_if_eq_t (pc := 4) 15 dX9_value_4 rfl (by decide) (by decide) ?_
    refine G_bipush (pc := 15) dX9_value_15 rfl ?_
    refine G_iret (pc := 17) dX9_value_17 rfl (by decide) ?_
    first | exact h0 (by omega) | exact h1 w1 w9
theorem PlW_val {p m : Int} {sh : SH} {S : SS} {xs : Int → Int} (hL : PlW p sh S m) (h : Red p xs) : PlW p sh (putA S 32 xs) m := by
  obtain ⟨h30, p0, p1, p2, p3, p5, p6, h31, h32, hm, hmb, r31, r32, R33, R35⟩ := hL
  exact ⟨h30, p0, p1, p2, p3, p5, p6, h31, h32, hm, hmb, by rw [putA_ne (by decide)]; exact r31, by rw [putA_at]; exact h, Row_pA R33 (by decide), Row_pA R35 (by decide)⟩
theorem PbW_val {p : Int} {sh : SH} {S : SS} {a : Nat} {xs : Int → Int} (hW : PbW p sh S) (ha : a = 31 ∨ a = 32) : PbW p sh (putA S a xs) := by
  obtain ⟨hK, ⟨⟨a1, a2, a3, a4, a5, a6, a7, a8, r14, r16, r18, r20⟩, o, w, f, v, e1, e2, e3, e4, e5, e6, e7, e8, e9⟩, hMd, hPo⟩ := hW
  have hp4 := e5
  unfold Perm4 at hp4
  exact ⟨hK, ⟨⟨a1, a2, a3, a4, a5, a6, a7, a8, Row_pA r14 (by omega), Row_pA r16 (by omega), Row_pA r18 (by omega), Row_pA r20 (by omega)⟩, o, w, f, v, e1, e2, e3, e4, e5, Row_pA e6 (by omega), Row_pA e7 (by omega), Row_pA e8 (by omega), Row_pA e9 (by omega)⟩, Row_pA hMd (by omega), fun i x y => Row_pA (hPo i x y) (by unfold pl; omega)⟩
set_option maxRecDepth 100000 in
set_option maxHeartbeats 4000000 in
theorem l_X9_look {g : GC} {p m a : Int} {sh : SH} {S : SS} {n : Nat} {Q : Option Value → GA → Nat → Prop} (hW : PbW p sh S) (hL : PlW p sh S m) (ha : 0 ≤ a ∧ a < 8) (hq : Q (some (.int (iI m))) (hp g sh (putA S 32 (mix (fun i => ev (pr S a) (S.2.1 31 i) 32 % p) (S.2.1 32) m))) n) : ∀ (k : Nat) (i : Int), i + k = m → 0 ≤ i → G g mX9_look 3 0 0 12 [(2, .int (iI i)), (0, gr g 0), (1, .int (iI a))] [] (hp g sh (putA S 32 (mix (fun i => ev (pr S a) (S.2.1 31 i) 32 % p) (S.2.1 32) i))) n 0 0 Q := by
  have hW' := hW
  obtain ⟨hK, hA, hMd, hPo⟩ := hW'
  obtain ⟨k0, q0, q1, q2, q3, q4, q7, q8, q9, q12, q13, q14, s1, s4, s9, s10, s11, f1, f2, f3⟩ := hK
  have hP := hA.1.1
  have hRs := hA.1.2.1
  have hpb := hP.bd
  have h12 := hRs.1
  have h13 := hA.1.2.2.1
  have h2s := hMd.1.1
  have hL' := hL
  obtain ⟨h30, -, -, -, -, -, -, -, -, hm, hmb, r31, r32, R33, R35⟩ := hL'
  have hfr : ∀ i : Int, Red p (mix (fun i => ev (pr S a) (S.2.1 31 i) 32 % p) (S.2.1 32) i) := fun i j => by
    unfold mix
    by_cases c : 0 ≤ j ∧ j < i
    · rw [if_pos c]
      exact ⟨Int.emod_nonneg _ (by omega), Int.emod_lt_of_pos _ (by omega)⟩
    · rw [if_neg c]; exact r32 j
  intro k
  induction k with
  | zero =>
    intro i hi h0
    have e : i = m := by omega
    subst e
    have L1 := PlW_val hL (hfr i)
    refine G_iload_n (pc := 12) dX9_look_12 rfl ?_
    refine S_aload_n (pc := 13) dX9_look_13 rfl ?_
    refine S_getR (pc := 14) dX9_look_14 fX9_72 (by assumption) rfl (by assumption) ?_
    refine S_callV (pc := 17) (ci := 2) (d2 := 1) (mc2 := 0) (ms2 := 0) (As := []) dX9_look_17 kX2_size lkX9_207 (by assumption) rfl rfl rfl (Nat.le_of_ble_eq_true rfl) ⟨by decide, by decide⟩ (by decide) ?_
    refine c_X2_size L1 ?_
    show G _ _ _ _ _ _ _ _ _ _ _ _ _
    refine G_icmp_ge_t (pc := 20) 58 dX9_look_20 rfl (by omega) (by omega) ?_
    refine S_aload_n (pc := 58) dX9_look_58 rfl ?_
    refine S_getR (pc := 59) dX9_look_59 fX9_72 (by assumption) rfl (by assumption) ?_
    refine S_callV (pc := 62) (ci := 2) (d2 := 1) (mc2 := 0) (ms2 := 0) (As := []) dX9_look_62 kX2_size lkX9_207 (by assumption) rfl rfl rfl (Nat.le_of_ble_eq_true rfl) ⟨by decide, by decide⟩ (by decide) ?_
    refine c_X2_size L1 ?_
    show G _ _ _ _ _ _ _ _ _ _ _ _ _
    refine G_iret (pc := 65) dX9_look_65 rfl (by decide) ?_
    exact hq
  | succ k ih =>
    intro i hi h0
    have L1 := PlW_val hL (hfr i)
    have W1 : PbW p sh (putA S 32 (mix (fun i => ev (pr S a) (S.2.1 31 i) 32 % p) (S.2.1 32) i)) := PbW_val hW (Or.inr rfl)
    have hn := ih (i + 1) (by omega) (by omega)
    have eN : (putA S 32 (mix (fun i => ev (pr S a) (S.2.1 31 i) 32 % p) (S.2.1 32) i)).2.1 31 = S.2.1 31 := putA_ne (by decide)
    have eP : rv (putA S 32 (mix (fun i => ev (pr S a) (S.2.1 31 i) 32 % p) (S.2.1 32) i)) (pl a) = pr S a := putA_ne (by unfold pl; omega)
    have ev2 : setA (putA S 32 (mix (fun i => ev (pr S a) (S.2.1 31 i) 32 % p) (S.2.1 32) i)) 32 i (ev (pr S a) (S.2.1 31 i) 32 % p) = putA S 32 (mix (fun i => ev (pr S a) (S.2.1 31 i) 32 % p) (S.2.1 32) (i + 1)) := by
      rw [setA_putA, ← mix_S h0]
    have hx := r31 i
    have rA := W1.2.2.2 a ha.1 ha.2
    refine G_iload_n (pc := 12) dX9_look_12 rfl ?_
    refine S_aload_n (pc := 13) dX9_look_13 rfl ?_
    refine S_getR (pc := 14) dX9_look_14 fX9_72 (by assumption) rfl (by assumption) ?_
    refine S_callV (pc := 17) (ci := 2) (d2 := 1) (mc2 := 0) (ms2 := 0) (As := []) dX9_look_17 kX2_size lkX9_207 (by assumption) rfl rfl rfl (Nat.le_of_ble_eq_true rfl) ⟨by decide, by decide⟩ (by decide) ?_
    refine c_X2_size L1 ?_
    show G _ _ _ _ _ _ _ _ _ _ _ _ _
    refine G_icmp_ge_f (pc := 20) 58 dX9_look_20 rfl (by omega) (by omega) ?_
    refine S_aload_n (pc := 23) dX9_look_23 rfl ?_
    refine S_getR (pc := 24) dX9_look_24 fX9_72 (by assumption) rfl (by assumption) ?_
    refine G_iload_n (pc := 27) dX9_look_27 rfl ?_
    refine S_aload_n (pc := 28) dX9_look_28 rfl ?_
    refine S_getR (pc := 29) dX9_look_29 fX9_63 (by assumption) rfl (by assumption) ?_
    refine S_aload_n (pc := 32) dX9_look_32 rfl ?_
    refine S_getR (pc := 33) dX9_look_33 fX9_11 (by assumption) rfl (by assumption) ?_
    refine G_iload_n (pc := 36) dX9_look_36 rfl ?_
    refine S_aald (pc := 37) dX9_look_37 (by assumption) rfl (by omega) (f1 _ ha.1 ha.2) ?_
    refine S_aload_n (pc := 38) dX9_look_38 rfl ?_
    refine S_getR (pc := 39) dX9_look_39 fX9_72 (by assumption) rfl (by assumption) ?_
    refine G_iload_n (pc := 42) dX9_look_42 rfl ?_
    refine S_callV (pc := 43) (ci := 2) (d2 := 2) (mc2 := 0) (ms2 := 0) (As := [_]) dX9_look_43 kX2_numberOf lkX9_220 (by assumption) rfl rfl rfl (Nat.le_of_ble_eq_true rfl) ⟨by decide, by decide⟩ (by decide) ?_
    refine c_X2_numberOf L1 (by omega) ?_
    rw [eN, itm_in (show 0 ≤ i ∧ i < m by omega)]
    show G _ _ _ _ _ _ _ _ _ _ _ _ _
    refine S_callV (pc := 46) (ci := 0) (d2 := 2) (mc2 := 0) (ms2 := 0) (As := [_, _]) dX9_look_46 kX0_evaluated lkX9_223 (by assumption) rfl rfl rfl (Nat.le_of_ble_eq_true rfl) ⟨by decide, by decide⟩ (by decide) ?_
    refine c_X0_evaluated W1.2.1.1 rA hx ?_
    rw [eP]
    show G _ _ _ _ _ _ _ _ _ _ _ _ _
    refine S_callV (pc := 49) (ci := 2) (d2 := 2) (mc2 := 0) (ms2 := 0) (As := [_, _]) dX9_look_49 kX2_give lkX9_217 (by assumption) rfl rfl rfl (Nat.le_of_ble_eq_true rfl) ⟨by decide, by decide⟩ (by decide) ?_
    refine c_X2_give L1 (by omega) ?_
    rw [ev2]
    show G _ _ _ _ _ _ _ _ _ _ _ _ _
    refine G_iinc (pc := 52) (ls' := [(2, _), (0, _), (1, _)]) dX9_look_52 rfl (by decide) rfl ?_
    refine G_goto (pc := 55) 12 dX9_look_55 rfl ?_
    exact hn
set_option maxRecDepth 100000 in
set_option maxHeartbeats 4000000 in
theorem c_X9_look {g : GC} {p m a : Int} {sh : SH} {S : SS} {n : Nat} {Q : Option Value → GA → Nat → Prop} (hW : PbW p sh S) (hL : PlW p sh S m) (hr : -2147483648 ≤ a ∧ a ≤ 2147483647) (h0 : ¬ (0 ≤ a ∧ a < 8) → Q (some (.int (iI (-2)))) (hp g sh S) n) (hq : (0 ≤ a ∧ a < 8) → Q (some (.int (iI m))) (hp g sh (putA S 32 (mix (fun i => ev (pr S a) (S.2.1 31 i) 32 % p) (S.2.1 32) m))) n) : GCall g mX9_look 3 0 0 [gr g 0, .int (iI a)] (hp g sh S) n Q := by
  have hW' := hW
  obtain ⟨hK, hA, hMd, hPo⟩ := hW'
  obtain ⟨k0, q0, q1, q2, q3, q4, q7, q8, q9, q12, q13, q14, s1, s4, s9, s10, s11, f1, f2, f3⟩ := hK
  have hP := hA.1.1
  have hRs := hA.1.2.1
  have hpb := hP.bd
  have h12 := hRs.1
  have h13 := hA.1.2.2.1
  have h2s := hMd.1.1
  have hL' := hL
  obtain ⟨h30, -, -, -, -, -, -, -, -, hm, hmb, r31, r32, R33, R35⟩ := hL'
  refine GCall.of (by decide) (Nat.le_of_ble_eq_true rfl) (ls := [(0, _), (1, _)]) rfl ?_
  have Kf : (0 ≤ a ∧ a < 8) → G g mX9_look 3 0 0 12 [(2, .int (iI 0)), (0, gr g 0), (1, .int (iI a))] [] (hp g sh S) n 0 0 Q := fun c => by
    have := l_X9_look hW hL c (hq c) m.toNat 0 (by omega) (Int.le_refl _)
    rw [mix_0, putA_same] at this
    exact this
  refine G_iload_n (pc := 0) dX9_look_0 rfl ?_
  refine G_callS (pc := 1) (d2 := 2) (mc2 := 0) (ms2 := 0) (As := [_]) dX9_look_1 kX9_isPoly lkX9_107 rfl rfl (Nat.le_of_ble_eq_true rfl) ⟨by decide, by decide⟩ (by decide) ?_
  refine c_X9_isPoly (by omega) (fun w1 => ?_) (fun w1 => ?_)
  · show G _ _ _ _ _ _ _ _ _ _ _ _ _
    refine G_if_ne_t (pc := 4) 10 dX9_look_4 rfl (by decide) (by decide) ?_
    refine G_iconst (pc := 10) dX9_look_10 ?_
    refine G_istore_n (pc := 11) (ls' := [(2, _), (0, _), (1, _)]) dX9_look_11 (by decide) rfl ?_
    exact Kf w1
  · show G _ _ _ _ _ _ _ _ _ _ _ _ _
    refine G_if_ne_f (pc := 4) 10 dX9_look_4 rfl (by decide) (by decide) ?_
    refine G_bipush (pc := 7) dX9_look_7 rfl ?_
    refine G_iret (pc := 9) dX9_look_9 rfl (by decide) ?_
    exact h0 w1
set_option maxRecDepth 100000 in
set_option maxHeartbeats 4000000 in
theorem c_X9_power {g : GC} {p m e : Int} {sh : SH} {S : SS} {n : Nat} {Q : Option Value → GA → Nat → Prop} (hW : PbW p sh S) (hL : PlW p sh S m) (hr : -2147483648 ≤ e ∧ e ≤ 2147483647) (h0 : ¬ (0 ≤ e ∧ e ≤ 999) → Q (some (.int (iI (-2)))) (hp g sh S) n) (hq : (0 ≤ e ∧ e ≤ 999) → Q (some (.int (iI (smd p (S.2.1 31) (S.2.1 32) e.toNat m.toNat)))) (hp g sh S) n) : GCall g mX9_power 4 0 0 [gr g 0, .int (iI e)] (hp g sh S) n Q := by
  have hW' := hW
  obtain ⟨hK, hA, hMd, hPo⟩ := hW'
  obtain ⟨k0, q0, q1, q2, q3, q4, q7, q8, q9, q12, q13, q14, s1, s4, s9, s10, s11, f1, f2, f3⟩ := hK
  have hP := hA.1.1
  have hRs := hA.1.2.1
  have hpb := hP.bd
  have h12 := hRs.1
  have h13 := hA.1.2.2.1
  have h2s := hMd.1.1
  have hL' := hL
  obtain ⟨h30, -, -, -, -, -, -, -, -, hm, hmb, r31, r32, R33, R35⟩ := hL'
  refine GCall.of (by decide) (Nat.le_of_ble_eq_true rfl) (ls := [(0, _), (1, _)]) rfl ?_
  refine G_iload_n (pc := 0) dX9_power_0 rfl ?_
  refine G_if_lt (pc := 1) 11 dX9_power_1 rfl (by omega) (fun c1 => ?_) (fun c1 => ?_)
  · skip
    refine G_bipush (pc := 11) dX9_power_11 rfl ?_
    refine G_iret (pc := 13) dX9_power_13 rfl (by decide) ?_
    first | exact h0 (by omega) | exact hq (by omega)
  · skip
    refine G_iload_n (pc := 4) dX9_power_4 rfl ?_
    refine G_sipush (pc := 5) dX9_power_5 rfl ?_
    refine G_icmp_le (pc := 8) 14 dX9_power_8 rfl (by omega) (fun c8 => ?_) (fun c8 => ?_)
    · skip
      refine S_aload_n (pc := 14) dX9_power_14 rfl ?_
      refine S_getR (pc := 15) dX9_power_15 fX9_72 (by assumption) rfl (by assumption) ?_
      refine G_iload_n (pc := 18) dX9_power_18 rfl ?_
      refine S_callV (pc := 19) (ci := 2) (d2 := 3) (mc2 := 0) (ms2 := 0) (As := [_]) dX9_power_19 kX2_summed lkX9_248 (by assumption) rfl rfl rfl (Nat.le_of_ble_eq_true rfl) ⟨by decide, by decide⟩ (by decide) ?_
      refine c_X2_summed hL hRs hP (by omega) ?_
      show G _ _ _ _ _ _ _ _ _ _ _ _ _
      refine G_iret (pc := 22) dX9_power_22 rfl (by decide) ?_
      first | exact h0 (by omega) | exact hq (by omega)
    · skip
      refine G_bipush (pc := 11) dX9_power_11 rfl ?_
      refine G_iret (pc := 13) dX9_power_13 rfl (by decide) ?_
      first | exact h0 (by omega) | exact hq (by omega)
set_option maxRecDepth 100000 in
set_option maxHeartbeats 4000000 in
theorem c_X9_counted {g : GC} {p : Int} {sh : SH} {S : SS} {n : Nat} {Q : Option Value → GA → Nat → Prop} (hW : PbW p sh S) (hq : Q (some (.long (iL (S.1 0 6)))) (hp g sh S) n) : GCall g mX9_counted 1 0 0 [gr g 0] (hp g sh S) n Q := by
  have hW' := hW
  obtain ⟨hK, hA, hMd, hPo⟩ := hW'
  obtain ⟨k0, q0, q1, q2, q3, q4, q7, q8, q9, q12, q13, q14, s1, s4, s9, s10, s11, f1, f2, f3⟩ := hK
  have hP := hA.1.1
  have hRs := hA.1.2.1
  have hpb := hP.bd
  have h12 := hRs.1
  have h13 := hA.1.2.2.1
  have h2s := hMd.1.1
  refine GCall.of (by decide) (Nat.le_of_ble_eq_true rfl) (ls := [(0, _)]) rfl ?_
  refine S_aload_n (pc := 0) dX9_counted_0 rfl ?_
  refine S_getL (pc := 1) dX9_counted_1 fX9_254 (by assumption) rfl ?_
  refine G_lret (pc := 4) dX9_counted_4 rfl (by decide) ?_
  exact hq
set_option maxRecDepth 100000 in
set_option maxHeartbeats 4000000 in
theorem c_X9_relation {g : GC} {p m j : Int} {sh : SH} {S : SS} {n : Nat} {Q : Option Value → GA → Nat → Prop} {a b c : Nat} (hW : PbW p sh S) (hL : PlW p sh S m) (hR : PlR p sh S a b c) (hr : -2147483648 ≤ j ∧ j ≤ 2147483647) (hbd : 0 ≤ (rl p (S.2.1 32) m m.toNat).2.1 ∧ (rl p (S.2.1 32) m m.toNat).2.1 ≤ 16)
    (hq : ∀ (S' : SS) (b c : Nat) (v : Int), Same RelD S S' → PlW p sh S' m → PlR p sh S' a b c → v = (if j < 0 ∨ (rl p (S.2.1 32) m m.toNat).2.1 < j then -2 else if j = 0 then (rl p (S.2.1 32) m m.toNat).2.1 else if m < 2 * (rl p (S.2.1 32) m m.toNat).2.1 then -3 else (-(rl p (S.2.1 32) m m.toNat).1.1 j) % p) → Q (some (.int (iI v))) (hp g sh S') n) : GCall g mX9_relation 5 0 0 [gr g 0, .int (iI j)] (hp g sh S) n Q := by
  have hW' := hW
  obtain ⟨hK, hA, hMd, hPo⟩ := hW'
  obtain ⟨k0, q0, q1, q2, q3, q4, q7, q8, q9, q12, q13, q14, s1, s4, s9, s10, s11, f1, f2, f3⟩ := hK
  have hP := hA.1.1
  have hRs := hA.1.2.1
  have hpb := hP.bd
  have h12 := hRs.1
  have h13 := hA.1.2.2.1
  have h2s := hMd.1.1
  have hL' := hL
  obtain ⟨h30, -, -, -, -, -, -, -, -, hm, hmb, r31, r32, R33, R35⟩ := hL'
  refine GCall.of (by decide) (Nat.le_of_ble_eq_true rfl) (ls := [(0, _), (1, _)]) rfl ?_
  have Kf : ∀ (S1 : SS) (b c : Nat), Same RelD S S1 → PlW p sh S1 m → PlR p sh S1 a b c → Alg p sh S1 → rv S1 a = (rl p (S.2.1 32) m m.toNat).1.1 → G g mX9_relation 5 0 0 8 [(2, .int (iI (rl p (S.2.1 32) m m.toNat).2.1)), (0, gr g 0), (1, .int (iI j))] [] (hp g sh S1) n 0 0 Q := by
    intro S1 b c z1 z2 z3 z4 z5
    have u13 : S1.2.2 0 13 = some 30 := (z1.2.2 0 13 (by unfold RelD; omega)).trans q13
    have hqq := fun v hv => hq S1 b c v z1 z2 z3 hv
    refine G_iload_n (pc := 8) dX9_relation_8 rfl ?_
    refine G_if_lt (pc := 9) 17 dX9_relation_9 rfl (by omega) (fun c9 => ?_) (fun c9 => ?_)
    · skip
      refine G_bipush (pc := 17) dX9_relation_17 rfl ?_
      refine G_iret (pc := 19) dX9_relation_19 rfl (by decide) ?_
      first
        | exact hqq _ (by rw [if_pos (by omega)])
        | exact hqq _ (by rw [if_neg (by omega), if_pos (by omega)])
        | exact hqq _ (by rw [if_neg (by omega), if_neg (by omega), if_pos (by omega)])
        | exact hqq _ (by rw [if_neg (by omega), if_neg (by omega), if_neg (by omega)])
    · skip
      refine G_iload_n (pc := 12) dX9_relation_12 rfl ?_
      refine G_iload_n (pc := 13) dX9_relation_13 rfl ?_
      refine G_icmp_le (pc := 14) 20 dX9_relation_14 rfl (by omega) (fun c14 => ?_) (fun c14 => ?_)
      · skip
        refine G_iload_n (pc := 20) dX9_relation_20 rfl ?_
        refine G_if_ne (pc := 21) 26 dX9_relation_21 rfl (by omega) (fun c21 => ?_) (fun c21 => ?_)
        · skip
          refine G_iconst (pc := 26) dX9_relation_26 ?_
          refine G_iload_n (pc := 27) dX9_relation_27 rfl ?_
          refine G_imul (pc := 28) dX9_relation_28 ?_
          refine S_aload_n (pc := 29) dX9_relation_29 rfl ?_
          refine S_getR (pc := 30) dX9_relation_30 fX9_72 (by assumption) rfl (by assumption) ?_
          refine S_callV (pc := 33) (ci := 2) (d2 := 1) (mc2 := 0) (ms2 := 0) (As := []) dX9_relation_33 kX2_size lkX9_207 (by assumption) rfl rfl rfl (Nat.le_of_ble_eq_true rfl) ⟨by decide, by decide⟩ (by decide) ?_
          refine c_X2_size z2 ?_
          show G _ _ _ _ _ _ _ _ _ _ _ _ _
          refine G_icmp_le (pc := 36) 44 dX9_relation_36 rfl (by omega) (fun c36 => ?_) (fun c36 => ?_)
          · skip
            refine S_aload_n (pc := 44) dX9_relation_44 rfl ?_
            refine S_getR (pc := 45) dX9_relation_45 fX9_72 (by assumption) rfl (by assumption) ?_
            refine G_iload_n (pc := 48) dX9_relation_48 rfl ?_
            refine S_callV (pc := 49) (ci := 2) (d2 := 2) (mc2 := 0) (ms2 := 0) (As := [_]) dX9_relation_49 kX2_soughtFactor lkX9_245 (by assumption) rfl rfl rfl (Nat.le_of_ble_eq_true rfl) ⟨by decide, by decide⟩ (by decide) ?_
            refine c_X2_soughtFactor z2 z3 z4 (by omega) ?_
            rw [z5]
            show G _ _ _ _ _ _ _ _ _ _ _ _ _
            refine G_iret (pc := 52) dX9_relation_52 rfl (by decide) ?_
            first
              | exact hqq _ (by rw [if_pos (by omega)])
              | exact hqq _ (by rw [if_neg (by omega), if_pos (by omega)])
              | exact hqq _ (by rw [if_neg (by omega), if_neg (by omega), if_pos (by omega)])
              | exact hqq _ (by rw [if_neg (by omega), if_neg (by omega), if_neg (by omega)])
          · skip
            refine G_bipush (pc := 39) dX9_relation_39 rfl ?_
            refine G_goto (pc := 41) 52 dX9_relation_41 rfl ?_
            refine G_iret (pc := 52) dX9_relation_52 rfl (by decide) ?_
            first
              | exact hqq _ (by rw [if_pos (by omega)])
              | exact hqq _ (by rw [if_neg (by omega), if_pos (by omega)])
              | exact hqq _ (by rw [if_neg (by omega), if_neg (by omega), if_pos (by omega)])
              | exact hqq _ (by rw [if_neg (by omega), if_neg (by omega), if_neg (by omega)])
        · skip
          refine G_iload_n (pc := 24) dX9_relation_24 rfl ?_
          refine G_iret (pc := 25) dX9_relation_25 rfl (by decide) ?_
          first
            | exact hqq _ (by rw [if_pos (by omega)])
            | exact hqq _ (by rw [if_neg (by omega), if_pos (by omega)])
            | exact hqq _ (by rw [if_neg (by omega), if_neg (by omega), if_pos (by omega)])
            | exact hqq _ (by rw [if_neg (by omega), if_neg (by omega), if_neg (by omega)])
      · skip
        refine G_bipush (pc := 17) dX9_relation_17 rfl ?_
        refine G_iret (pc := 19) dX9_relation_19 rfl (by decide) ?_
        first
          | exact hqq _ (by rw [if_pos (by omega)])
          | exact hqq _ (by rw [if_neg (by omega), if_pos (by omega)])
          | exact hqq _ (by rw [if_neg (by omega), if_neg (by omega), if_pos (by omega)])
          | exact hqq _ (by rw [if_neg (by omega), if_neg (by omega), if_neg (by omega)])
  refine S_aload_n (pc := 0) dX9_relation_0 rfl ?_
  refine S_getR (pc := 1) dX9_relation_1 fX9_72 (by assumption) rfl (by assumption) ?_
  refine S_callV (pc := 4) (ci := 2) (d2 := 4) (mc2 := 0) (ms2 := 0) (As := []) dX9_relation_4 kX2_seekRelation lkX9_242 (by assumption) rfl rfl rfl (Nat.le_of_ble_eq_true rfl) ⟨by decide, by decide⟩ (by decide) ?_
  refine c_X2_seekRelation hP hL hR hW.2.1.1 (fun S1 b c z1 z2 z3 z4 z5 => ?_)
  · show G _ _ _ _ _ _ _ _ _ _ _ _ _
    refine G_istore_n (pc := 7) (ls' := [(2, _), (0, _), (1, _)]) dX9_relation_7 (by decide) rfl ?_
    exact Kf S1 b c z1 z2 z3 z4 z5
