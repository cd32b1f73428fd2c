/-! PolyBench: ways -/
theorem smf_1 {A B : Int → Int} (h : A = B) : smf A B = 1 := if_pos h
theorem smf_0 {A B : Int → Int} (h : A ≠ B) : smf A B = 0 := if_neg h
def wa (i : Int) : Nat := 113 + 2 * i.toNat
def VwW (sh : SH) (S : SS) (w : Int) (kd cu : Int → Int) : Prop := S.1 0 5 = w ∧ (0 ≤ w ∧ w ≤ 8) ∧ ∀ i : Int, 0 ≤ i → i < w → S.2.2 4 i = some (wa i) ∧ WyW sh S (wa i) (kd i) (cu i) (wtb (kd i) (cu i) 32) ∧ (0 ≤ kd i ∧ kd i ≤ 5) ∧ (1 ≤ cu i ∧ cu i ≤ 16)
set_option maxRecDepth 100000 in
set_option maxHeartbeats 4000000 in
theorem c_X9_isWay {g : GC} {p w wy : Int} {kd cu : Int → Int} {sh : SH} {S : SS} {n : Nat} {Q : Option Value → GA → Nat → Prop} (hW : PbW p sh S) (hV : VwW sh S w kd cu) (hr : -2147483648 ≤ wy ∧ wy ≤ 2147483647) (h1 : 0 ≤ wy ∧ wy < w → Q (some (.int (iI 1))) (hp g sh S) n) (h0 : ¬ (0 ≤ wy ∧ wy < w) → Q (some (.int (iI 0))) (hp g sh S) n) : GCall g mX9_isWay 2 0 0 [gr g 0, .int (iI wy)] (hp g sh S) n Q := by
  have hW' := hW
  obtain ⟨hK, hA, hMd, hPo⟩ := hW'
  obtain ⟨k0, q0, q1, q2, q3, q4, q7, q8, q9, q12, q13, q14, s1, s4, s9, s10, s11, f1, f2, f3⟩ := hK
  have hP := hA.1.1
  have hRs := hA.1.2.1
  have hpb := hP.bd
  have h12 := hRs.1
  have h13 := hA.1.2.2.1
  have h2s := hMd.1.1
  obtain ⟨v5, vb, vw⟩ := hV
  refine GCall.of (by decide) (Nat.le_of_ble_eq_true rfl) (ls := [(0, _), (1, _)]) rfl ?_
  refine G_iload_n (pc := 0) dX9_isWay_0 rfl ?_
  refine S_aload_n (pc := 1) dX9_isWay_1 rfl ?_
  refine S_getI (pc := 2) dX9_isWay_2 fX9_148 (by assumption) rfl ?_
  rw [v5]
  refine G_callS (pc := 5) (d2 := 1) (mc2 := 0) (ms2 := 0) (As := [_, _]) dX9_isWay_5 kX9_isWithin lkX9_111 rfl rfl (Nat.le_of_ble_eq_true rfl) ⟨by decide, by decide⟩ (by decide) ?_
  refine c_X9_isWithin (by omega) (fun w5 => ?_) (fun w5 => ?_)
  · show G _ _ _ _ _ _ _ _ _ _ _ _ _
    refine G_if_eq_f (pc := 8) 24 dX9_isWay_8 rfl (by decide) (by decide) ?_
    refine S_aload_n (pc := 11) dX9_isWay_11 rfl ?_
    refine S_getR (pc := 12) dX9_isWay_12 fX9_24 (by assumption) rfl (by assumption) ?_
    refine G_iload_n (pc := 15) dX9_isWay_15 rfl ?_
    refine S_aald (pc := 16) dX9_isWay_16 (by assumption) rfl (by omega) (vw wy w5.1 w5.2).1 ?_
    refine G_ifnull (pc := 17) dX9_isWay_17 ?_
    refine G_iconst (pc := 20) dX9_isWay_20 ?_
    refine G_goto (pc := 21) 25 dX9_isWay_21 rfl ?_
    refine G_zret (pc := 25) dX9_isWay_25 rfl nar_z1 (by decide) ?_
    first | exact h1 w5 | exact h0 w5
  · show G _ _ _ _ _ _ _ _ _ _ _ _ _
    refine G_if_eq_t (pc := 8) 24 dX9_isWay_8 rfl (by decide) (by decide) ?_
    refine G_iconst (pc := 24) dX9_isWay_24 ?_
    refine G_zret (pc := 25) dX9_isWay_25 rfl nar_z0 (by decide) ?_
    first | exact h1 w5 | exact h0 w5
set_option maxRecDepth 100000 in
set_option maxHeartbeats 4000000 in
theorem c_X9_taken {g : GC} {p w wy k : Int} {kd cu : Int → Int} {sh : SH} {S : SS} {n : Nat} {Q : Option Value → GA → Nat → Prop} (hW : PbW p sh S) (hV : VwW sh S w kd cu) (hr : (-2147483648 ≤ wy ∧ wy ≤ 2147483647) ∧ (-2147483648 ≤ k ∧ k ≤ 2147483647)) (h0 : ¬ (0 ≤ k ∧ k ≤ 5) → Q (some (.int (iI (-2)))) (hp g sh S) n) (h1 : (0 ≤ k ∧ k ≤ 5) → ¬ (0 ≤ wy ∧ wy < w) → Q (some (.int (iI (-11)))) (hp g sh S) n)
    (h2 : (0 ≤ k ∧ k ≤ 5) → (0 ≤ wy ∧ wy < w) → utk 6 (kd wy) k → Q (some (.int (iI (cu wy)))) (hp g sh S) n) (h3 : (0 ≤ k ∧ k ≤ 5) → (0 ≤ wy ∧ wy < w) → ¬ utk 6 (kd wy) k → Q (some (.int (iI (-13)))) (hp g sh S) n) : GCall g mX9_taken 3 0 0 [gr g 0, .int (iI wy), .int (iI k)] (hp g sh S) n Q := by
  have hV' := hV
  have hW' := hW
  obtain ⟨hK, hA, hMd, hPo⟩ := hW'
  obtain ⟨k0, q0, q1, q2, q3, q4, q7, q8, q9, q12, q13, q14, s1, s4, s9, s10, s11, f1, f2, f3⟩ := hK
  have hP := hA.1.1
  have hRs := hA.1.2.1
  have hpb := hP.bd
  have h12 := hRs.1
  have h13 := hA.1.2.2.1
  have h2s := hMd.1.1
  obtain ⟨v5, vb, vw⟩ := hV
  refine GCall.of (by decide) (Nat.le_of_ble_eq_true rfl) (ls := [(0, _), (1, _), (2, _)]) rfl ?_
  refine G_iload_n (pc := 0) dX9_taken_0 rfl ?_
  refine G_bipush (pc := 1) dX9_taken_1 rfl ?_
  refine G_callS (pc := 3) (d2 := 1) (mc2 := 0) (ms2 := 0) (As := [_, _]) dX9_taken_3 kX9_isWithin lkX9_111 rfl rfl (Nat.le_of_ble_eq_true rfl) ⟨by decide, by decide⟩ (by decide) ?_
  refine c_X9_isWithin (by omega) (fun w3 => ?_) (fun w3 => ?_)
  · show G _ _ _ _ _ _ _ _ _ _ _ _ _
    refine G_if_ne_t (pc := 6) 12 dX9_taken_6 rfl (by decide) (by decide) ?_
    refine S_aload_n (pc := 12) dX9_taken_12 rfl ?_
    refine G_iload_n (pc := 13) dX9_taken_13 rfl ?_
    refine S_callV (pc := 14) (ci := 9) (d2 := 2) (mc2 := 0) (ms2 := 0) (As := [_]) dX9_taken_14 kX9_isWay lkX9_153 (by assumption) rfl rfl rfl (Nat.le_of_ble_eq_true rfl) ⟨by decide, by decide⟩ (by decide) ?_
    refine c_X9_isWay hW hV' (by omega) (fun w14 => ?_) (fun w14 => ?_)
    · show G _ _ _ _ _ _ _ _ _ _ _ _ _
      refine G_if_ne_t (pc := 17) 23 dX9_taken_17 rfl (by decide) (by decide) ?_
      refine S_aload_n (pc := 23) dX9_taken_23 rfl ?_
      refine S_getR (pc := 24) dX9_taken_24 fX9_24 (by assumption) rfl (by assumption) ?_
      refine G_iload_n (pc := 27) dX9_taken_27 rfl ?_
      refine S_aald (pc := 28) dX9_taken_28 (by assumption) rfl (by omega) (vw wy w14.1 w14.2).1 ?_
      refine G_iload_n (pc := 29) dX9_taken_29 rfl ?_
      refine S_callV (pc := 30) (ci := 8) (d2 := 2) (mc2 := 0) (ms2 := 0) (As := [_]) dX9_taken_30 kX8_isUnder lkX9_270 (vw wy w14.1 w14.2).2.1.1 rfl rfl rfl (Nat.le_of_ble_eq_true rfl) ⟨by decide, by decide⟩ (by decide) ?_
      refine c_X8_isUnder (vw wy w14.1 w14.2).2.1 (vw wy w14.1 w14.2).2.2.1 (by omega) (fun w30 => ?_) (fun w30 => ?_)
      · show G _ _ _ _ _ _ _ _ _ _ _ _ _
        refine G_if_eq_f (pc := 33) 48 dX9_taken_33 rfl (by decide) (by decide) ?_
        refine S_aload_n (pc := 36) dX9_taken_36 rfl ?_
        refine S_getR (pc := 37) dX9_taken_37 fX9_24 (by assumption) rfl (by assumption) ?_
        refine G_iload_n (pc := 40) dX9_taken_40 rfl ?_
        refine S_aald (pc := 41) dX9_taken_41 (by assumption) rfl (by omega) (vw wy w14.1 w14.2).1 ?_
        refine S_callV (pc := 42) (ci := 8) (d2 := 1) (mc2 := 0) (ms2 := 0) (As := []) dX9_taken_42 kX8_cut lkX9_273 (vw wy w14.1 w14.2).2.1.1 rfl rfl rfl (Nat.le_of_ble_eq_true rfl) ⟨by decide, by decide⟩ (by decide) ?_
        refine c_X8_cut (vw wy w14.1 w14.2).2.1 ?_
        show G _ _ _ _ _ _ _ _ _ _ _ _ _
        refine G_goto (pc := 45) 50 dX9_taken_45 rfl ?_
        refine G_iret (pc := 50) dX9_taken_50 rfl (by decide) ?_
        first | exact h0 (by omega) | exact h1 (by omega) w14 | exact h2 (by omega) w14 w30 | exact h3 (by omega) w14 w30
      · show G _ _ _ _ _ _ _ _ _ _ _ _ _
        refine G_if_eq_t (pc := 33) 48 dX9_taken_33 rfl (by decide) (by decide) ?_
        refine G_bipush (pc := 48) dX9_taken_48 rfl ?_
        refine G_iret (pc := 50) dX9_taken_50 rfl (by decide) ?_
        first | exact h0 (by omega) | exact h1 (by omega) w14 | exact h2 (by omega) w14 w30 | exact h3 (by omega) w14 w30
    · show G _ _ _ _ _ _ _ _ _ _ _ _ _
      refine G_if_ne_f (pc := 17) 23 dX9_taken_17 rfl (by decide) (by decide) ?_
      refine G_bipush (pc := 20) dX9_taken_20 rfl ?_
      refine G_iret (pc := 22) dX9_taken_22 rfl (by decide) ?_
      first | exact h0 (by omega) | exact h1 (by omega) w14 | exact h2 (by omega) w14 w30 | exact h3 (by omega) w14 w30
  · show G _ _ _ _ _ _ _ _ _ _ _ _ _
    refine G_if_ne_f (pc := 6) 12 dX9_taken_6 rfl (by decide) (by decide) ?_
    refine G_bipush (pc := 9) dX9_taken_9 rfl ?_
    refine G_iret (pc := 11) dX9_taken_11 rfl (by decide) ?_
    first | exact h0 (by omega) | exact h1 (by omega) w14 | exact h2 (by omega) w14 w30 | exact h3 (by omega) w14 w30
set_option maxRecDepth 100000 in
set_option maxHeartbeats 4000000 in
theorem c_X9_countFor {g : GC} {p w a b wy : Int} {kd cu : Int → Int} {sh : SH} {S : SS} {n : Nat} {Q : Option Value → GA → Nat → Prop} (hW : PbW p sh S) (hV : VwW sh S w kd cu) (ha : 0 ≤ a ∧ a < 8) (hb : 0 ≤ b ∧ b < 8) (hwy : 0 ≤ wy ∧ wy < w) (hq : Q (some (.int (iI (ctO (kd wy) (cu wy) (plen (pr S a) 32) (plen (pr S b) 32) (smf (pr S a) (pr S b)))))) (hp g sh S) n) : GCall g mX9_countFor 4 0 0 [gr g 0, .int (iI a), .int (iI b), .int (iI wy)] (hp g sh S) n Q := by
  have hW' := hW
  obtain ⟨hK, hA, hMd, hPo⟩ := hW'
  obtain ⟨k0, q0, q1, q2, q3, q4, q7, q8, q9, q12, q13, q14, s1, s4, s9, s10, s11, f1, f2, f3⟩ := hK
  have hP := hA.1.1
  have hRs := hA.1.2.1
  have hpb := hP.bd
  have h12 := hRs.1
  have h13 := hA.1.2.2.1
  have h2s := hMd.1.1
  obtain ⟨v5, vb, vw⟩ := hV
  refine GCall.of (by decide) (Nat.le_of_ble_eq_true rfl) (ls := [(0, _), (1, _), (2, _), (3, _)]) rfl ?_
  have rA := hPo a ha.1 ha.2
  have rB := hPo b hb.1 hb.2
  have eA : S.1 (pl a) 1 = plen (pr S a) 32 := rA.2.2.1
  have eB : S.1 (pl b) 1 = plen (pr S b) 32 := rB.2.2.1
  have bA := plen_bd (pr S a) 32
  have bB := plen_bd (pr S b) 32
  obtain ⟨g1, g2, g3, g4⟩ := vw wy hwy.1 hwy.2
  have Kf : ∀ sm : Int, sm = smf (pr S a) (pr S b) → G g mX9_countFor 4 0 0 39 [(0, gr g 0), (1, .int (iI a)), (2, .int (iI b)), (3, .int (iI wy))] [.int (iI sm), .int (iI (plen (pr S b) 32)), .int (iI (plen (pr S a) 32)), gr g (wa wy)] (hp g sh S) n 0 0 Q := by
    intro sm hs
    have hsm := smf_bd (A := pr S a) (B := pr S b)
    rw [← hs] at hq hsm
    refine S_callV (pc := 39) (ci := 8) (d2 := 3) (mc2 := 0) (ms2 := 0) (As := [_, _, _]) dX9_countFor_39 kX8_countOf lkX9_280 g2.1 rfl rfl rfl (Nat.le_of_ble_eq_true rfl) ⟨by decide, by decide⟩ (by decide) ?_
    refine c_X8_countOf g2 g3 g4 (by omega) (by omega) (by omega) ?_
    show G _ _ _ _ _ _ _ _ _ _ _ _ _
    refine G_iret (pc := 42) dX9_countFor_42 rfl (by decide) ?_
    exact hq
  refine S_aload_n (pc := 0) dX9_countFor_0 rfl ?_
  refine S_getR (pc := 1) dX9_countFor_1 fX9_24 (by assumption) rfl (by assumption) ?_
  refine G_iload_n (pc := 4) dX9_countFor_4 rfl ?_
  refine S_aald (pc := 5) dX9_countFor_5 (by assumption) rfl (by omega) g1 ?_
  refine S_aload_n (pc := 6) dX9_countFor_6 rfl ?_
  refine S_getR (pc := 7) dX9_countFor_7 fX9_11 (by assumption) rfl (by assumption) ?_
  refine G_iload_n (pc := 10) dX9_countFor_10 rfl ?_
  refine S_aald (pc := 11) dX9_countFor_11 (by assumption) rfl (by omega) (f1 _ ha.1 ha.2) ?_
  refine S_callV (pc := 12) (ci := 4) (d2 := 1) (mc2 := 0) (ms2 := 0) (As := []) dX9_countFor_12 kX4_length lkX9_127 rA.1.1 rfl rfl rfl (Nat.le_of_ble_eq_true rfl) ⟨by decide, by decide⟩ (by decide) ?_
  refine c_X4_length rA.1 ?_
  rw [eA]
  show G _ _ _ _ _ _ _ _ _ _ _ _ _
  refine S_aload_n (pc := 15) dX9_countFor_15 rfl ?_
  refine S_getR (pc := 16) dX9_countFor_16 fX9_11 (by assumption) rfl (by assumption) ?_
  refine G_iload_n (pc := 19) dX9_countFor_19 rfl ?_
  refine S_aald (pc := 20) dX9_countFor_20 (by assumption) rfl (by omega) (f1 _ hb.1 hb.2) ?_
  refine S_callV (pc := 21) (ci := 4) (d2 := 1) (mc2 := 0) (ms2 := 0) (As := []) dX9_countFor_21 kX4_length lkX9_127 rB.1.1 rfl rfl rfl (Nat.le_of_ble_eq_true rfl) ⟨by decide, by decide⟩ (by decide) ?_
  refine c_X4_length rB.1 ?_
  rw [eB]
  show G _ _ _ _ _ _ _ _ _ _ _ _ _
  refine S_aload_n (pc := 24) dX9_countFor_24 rfl ?_
  refine S_getR (pc := 25) dX9_countFor_25 fX9_11 (by assumption) rfl (by assumption) ?_
  refine G_iload_n (pc := 28) dX9_countFor_28 rfl ?_
  refine S_aald (pc := 29) dX9_countFor_29 (by assumption) rfl (by omega) (f1 _ ha.1 ha.2) ?_
  refine S_aload_n (pc := 30) dX9_countFor_30 rfl ?_
  refine S_getR (pc := 31) dX9_countFor_31 fX9_11 (by assumption) rfl (by assumption) ?_
  refine G_iload_n (pc := 34) dX9_countFor_34 rfl ?_
  refine S_aald (pc := 35) dX9_countFor_35 (by assumption) rfl (by omega) (f1 _ hb.1 hb.2) ?_
  refine S_callV (pc := 36) (ci := 4) (d2 := 2) (mc2 := 0) (ms2 := 0) (As := [_]) dX9_countFor_36 kX4_isLike lkX9_276 rA.1.1 rfl rfl rfl (Nat.le_of_ble_eq_true rfl) ⟨by decide, by decide⟩ (by decide) ?_
  refine c_X4_isLike rA rB (by omega) (fun z _ => ?_) (fun z => ?_) rfl
  · show G _ _ _ _ _ _ _ _ _ _ _ _ _
    first | exact Kf 1 (smf_1 z).symm | exact Kf 0 (smf_0 z).symm
  · show G _ _ _ _ _ _ _ _ _ _ _ _ _
    first | exact Kf 1 (smf_1 z).symm | exact Kf 0 (smf_0 z).symm
set_option maxRecDepth 100000 in
set_option maxHeartbeats 4000000 in
theorem c_X9_multiply {g : GC} {p w t a b wy c : Int} {kd cu : Int → Int} {sh : SH} {S : SS} {n : Nat} {Q : Option Value → GA → Nat → Prop} (hW : PbW p sh S) (hV : VwW sh S w kd cu) (ht : 0 ≤ t ∧ t < 8) (ha : 0 ≤ a ∧ a < 8) (hb : 0 ≤ b ∧ b < 8) (hwy : 0 ≤ wy ∧ wy < w) (hc : c = (ctO (kd wy) (cu wy) (plen (pr S a) 32) (plen (pr S b) 32) (smf (pr S a) (pr S b)))) (h0 : (c = -4 ∨ 32 < plen (pr S a) 32 + plen (pr S b) 32 - 1) → Q (some (.int (iI (-4)))) (hp g sh S) n) (h1 : ¬ (c = -4 ∨ 32 < plen (pr S a) 32 + plen (pr S b) 32 - 1) → ∀ S' : SS, PbE p sh S t (pmul p (pr S a) (pr S b)) S' → Q (some (.int (iI c))) (hp g sh (setF S' 0 6 (S.1 0 6 + c))) n) : GCall g mX9_multiply 5 0 0 [gr g 0, .int (iI t), .int (iI a), .int (iI b), .int (iI wy)] (hp g sh S) n Q := by
  have hV' := hV
  have hW' := hW
  obtain ⟨hK, hA, hMd, hPo⟩ := hW'
  obtain ⟨k0, q0, q1, q2, q3, q4, q7, q8, q9, q12, q13, q14, s1, s4, s9, s10, s11, f1, f2, f3⟩ := hK
  have hP := hA.1.1
  have hRs := hA.1.2.1
  have hpb := hP.bd
  have h12 := hRs.1
  have h13 := hA.1.2.2.1
  have h2s := hMd.1.1
  obtain ⟨v5, vb, vw⟩ := hV
  refine GCall.of (by decide) (Nat.le_of_ble_eq_true rfl) (ls := [(0, _), (1, _), (2, _), (3, _), (4, _)]) rfl ?_
  have rA := hPo a ha.1 ha.2
  have rB := hPo b hb.1 hb.2
  have eA : S.1 (pl a) 1 = plen (pr S a) 32 := rA.2.2.1
  have eB : S.1 (pl b) 1 = plen (pr S b) 32 := rB.2.2.1
  have bA := plen_bd (pr S a) 32
  have bB := plen_bd (pr S b) 32
  have hcb := ctO_bd (sm := smf (pr S a) (pr S b)) (vw wy hwy.1 hwy.2).2.2.1 (vw wy hwy.1 hwy.2).2.2.2 (show 0 ≤ plen (pr S a) 32 ∧ plen (pr S a) 32 ≤ 32 by omega) (show 0 ≤ plen (pr S b) 32 ∧ plen (pr S b) 32 ≤ 32 by omega)
  rw [← hc] at hcb
  have Kf : ¬ (c = -4 ∨ 32 < plen (pr S a) 32 + plen (pr S b) 32 - 1) → G g mX9_multiply 5 0 0 67 [(5, .int (iI c)), (0, gr g 0), (1, .int (iI t)), (2, .int (iI a)), (3, .int (iI b)), (4, .int (iI wy))] [gr g 14, .int (iI t), gr g 0] (hp g sh (rput S 14 (pmul p (rv S (pl a)) (rv S (pl b))) 64)) n 0 0 Q := by
    intro hn
    have hS : Sup (pmul p (rv S (pl a)) (rv S (pl b))) 32 := pmul_sup (la := plen (pr S a) 32) (lb := plen (pr S b) 32) (fun j hj => Sup_len rA.2.2.2.1 hj) (fun j hj => Sup_len rB.2.2.2.1 hj) (by omega)
    have A2 := AlgW_row hW.2.1 (Or.inl rfl) (Sup_up hS (by decide)) (pmul_red (p := p) (a := rv S (pl a)) (b := rv S (pl b)) (by omega))
    obtain ⟨W1, s1', e1⟩ := PbW_alg hW (Same_put Same_rf (by unfold AlgD; omega) (by unfold AlgD; omega)) A2
    have r14 := Al14 W1.2.1
    have hE := PbE_bec W1 s1' e1 ht r14
    rw [rput_rv, clip_len hS] at hE
    have hqq := h1 hn _ hE
    have e6 : (rput (rput S 14 (pmul p (rv S (pl a)) (rv S (pl b))) 64) (pl t) (pmul p (rv S (pl a)) (rv S (pl b))) 32).1 0 6 = S.1 0 6 := (rput_F (by omega)).trans (rput_F (by omega))
    refine S_callV (pc := 67) (ci := 9) (d2 := 4) (mc2 := 0) (ms2 := 0) (As := [_, _]) dX9_multiply_67 kX9_become lkX9_144 (by assumption) rfl rfl rfl (Nat.le_of_ble_eq_true rfl) ⟨by decide, by decide⟩ (by decide) ?_
    refine c_X9_become W1 ht r14 (Ne.symm (pl_ne (by decide))) ?_
    rw [rput_rv, clip_len hS]
    show G _ _ _ _ _ _ _ _ _ _ _ _ _
    refine G_pop (pc := 70) dX9_multiply_70 rfl ?_
    refine S_aload_n (pc := 71) dX9_multiply_71 rfl ?_
    refine G_dup (pc := 72) dX9_multiply_72 rfl ?_
    refine S_getL (pc := 73) dX9_multiply_73 fX9_254 (by assumption) rfl ?_
    rw [e6]
    refine G_iload (pc := 76) dX9_multiply_76 rfl ?_
    refine G_i2l (pc := 78) dX9_multiply_78 (by omega) ?_
    refine G_ladd (pc := 79) dX9_multiply_79 ?_
    refine S_putL (pc := 80) dX9_multiply_80 fX9_254 (by assumption) rfl ⟨rfl, rfl⟩ ?_
    refine G_iload (pc := 83) dX9_multiply_83 rfl ?_
    refine G_iret (pc := 85) dX9_multiply_85 rfl (by decide) ?_
    exact hqq
  refine S_aload_n (pc := 0) dX9_multiply_0 rfl ?_
  refine G_iload_n (pc := 1) dX9_multiply_1 rfl ?_
  refine G_iload_n (pc := 2) dX9_multiply_2 rfl ?_
  refine G_iload (pc := 3) dX9_multiply_3 rfl ?_
  refine S_callV (pc := 5) (ci := 9) (d2 := 4) (mc2 := 0) (ms2 := 0) (As := [_, _, _]) dX9_multiply_5 kX9_countFor lkX9_160 (by assumption) rfl rfl rfl (Nat.le_of_ble_eq_true rfl) ⟨by decide, by decide⟩ (by decide) ?_
  refine c_X9_countFor hW hV' ha hb hwy ?_
  rw [← hc]
  show G _ _ _ _ _ _ _ _ _ _ _ _ _
  refine G_istore (pc := 8) (ls' := [(5, _), (0, _), (1, _), (2, _), (3, _), (4, _)]) dX9_multiply_8 (by decide) rfl ?_
  refine G_iload (pc := 10) dX9_multiply_10 rfl ?_
  refine G_bipush (pc := 12) dX9_multiply_12 rfl ?_
  refine G_icmp_eq (pc := 14) 43 dX9_multiply_14 rfl (by omega) (fun c14 => ?_) (fun c14 => ?_)
  · skip
    refine G_bipush (pc := 43) dX9_multiply_43 rfl ?_
    refine G_iret (pc := 45) dX9_multiply_45 rfl (by decide) ?_
    exact h0 (by omega)
  · skip
    refine S_aload_n (pc := 17) dX9_multiply_17 rfl ?_
    refine S_getR (pc := 18) dX9_multiply_18 fX9_11 (by assumption) rfl (by assumption) ?_
    refine G_iload_n (pc := 21) dX9_multiply_21 rfl ?_
    refine S_aald (pc := 22) dX9_multiply_22 (by assumption) rfl (by omega) (f1 _ ha.1 ha.2) ?_
    refine S_callV (pc := 23) (ci := 4) (d2 := 1) (mc2 := 0) (ms2 := 0) (As := []) dX9_multiply_23 kX4_length lkX9_127 rA.1.1 rfl rfl rfl (Nat.le_of_ble_eq_true rfl) ⟨by decide, by decide⟩ (by decide) ?_
    refine c_X4_length rA.1 ?_
    rw [eA]
    show G _ _ _ _ _ _ _ _ _ _ _ _ _
    refine S_aload_n (pc := 26) dX9_multiply_26 rfl ?_
    refine S_getR (pc := 27) dX9_multiply_27 fX9_11 (by assumption) rfl (by assumption) ?_
    refine G_iload_n (pc := 30) dX9_multiply_30 rfl ?_
    refine S_aald (pc := 31) dX9_multiply_31 (by assumption) rfl (by omega) (f1 _ hb.1 hb.2) ?_
    refine S_callV (pc := 32) (ci := 4) (d2 := 1) (mc2 := 0) (ms2 := 0) (As := []) dX9_multiply_32 kX4_length lkX9_127 rB.1.1 rfl rfl rfl (Nat.le_of_ble_eq_true rfl) ⟨by decide, by decide⟩ (by decide) ?_
    refine c_X4_length rB.1 ?_
    rw [eB]
    show G _ _ _ _ _ _ _ _ _ _ _ _ _
    refine G_iadd (pc := 35) dX9_multiply_35 ?_
    refine G_iconst (pc := 36) dX9_multiply_36 ?_
    refine G_isub (pc := 37) dX9_multiply_37 ?_
    refine G_bipush (pc := 38) dX9_multiply_38 rfl ?_
    refine G_icmp_le (pc := 40) 46 dX9_multiply_40 rfl (by omega) (fun c40 => ?_) (fun c40 => ?_)
    · skip
      refine S_aload_n (pc := 46) dX9_multiply_46 rfl ?_
      refine G_iload_n (pc := 47) dX9_multiply_47 rfl ?_
      refine S_aload_n (pc := 48) dX9_multiply_48 rfl ?_
      refine S_getR (pc := 49) dX9_multiply_49 fX9_63 (by assumption) rfl (by assumption) ?_
      refine S_aload_n (pc := 52) dX9_multiply_52 rfl ?_
      refine S_getR (pc := 53) dX9_multiply_53 fX9_11 (by assumption) rfl (by assumption) ?_
      refine G_iload_n (pc := 56) dX9_multiply_56 rfl ?_
      refine S_aald (pc := 57) dX9_multiply_57 (by assumption) rfl (by omega) (f1 _ ha.1 ha.2) ?_
      refine S_aload_n (pc := 58) dX9_multiply_58 rfl ?_
      refine S_getR (pc := 59) dX9_multiply_59 fX9_11 (by assumption) rfl (by assumption) ?_
      refine G_iload_n (pc := 62) dX9_multiply_62 rfl ?_
      refine S_aald (pc := 63) dX9_multiply_63 (by assumption) rfl (by omega) (f1 _ hb.1 hb.2) ?_
      refine S_callV (pc := 64) (ci := 0) (d2 := 3) (mc2 := 0) (ms2 := 0) (As := [_, _]) dX9_multiply_64 kX0_multiplied lkX9_284 (by assumption) rfl rfl rfl (Nat.le_of_ble_eq_true rfl) ⟨by decide, by decide⟩ (by decide) ?_
      refine c_X0_multiplied hW.2.1.1 rA rB (pl_ne (by decide)) (pl_ne (by decide)) (by rw [eA, eB]; omega) ?_
      exact Kf (by omega)
    · skip
      refine G_bipush (pc := 43) dX9_multiply_43 rfl ?_
      refine G_iret (pc := 45) dX9_multiply_45 rfl (by decide) ?_
      exact h0 (by omega)
set_option maxRecDepth 100000 in
set_option maxHeartbeats 4000000 in
theorem c_X9_times {g : GC} {p w t a b wy : Int} {kd cu : Int → Int} {sh : SH} {S : SS} {n : Nat} {Q : Option Value → GA → Nat → Prop} (hW : PbW p sh S) (hV : VwW sh S w kd cu) (hr : (-2147483648 ≤ t ∧ t ≤ 2147483647) ∧ (-2147483648 ≤ a ∧ a ≤ 2147483647) ∧ (-2147483648 ≤ b ∧ b ≤ 2147483647) ∧ (-2147483648 ≤ wy ∧ wy ≤ 2147483647)) (h0 : ¬ ((0 ≤ t ∧ t < 8) ∧ (0 ≤ a ∧ a < 8) ∧ (0 ≤ b ∧ b < 8) ∧ (0 ≤ wy ∧ wy < w)) → Q (some (.int (iI (-2)))) (hp g sh S) n)
    (h2 : (0 ≤ t ∧ t < 8) → (0 ≤ a ∧ a < 8) → (0 ≤ b ∧ b < 8) → (0 ≤ wy ∧ wy < w) → ∀ c : Int, c = (ctO (kd wy) (cu wy) (plen (pr S a) 32) (plen (pr S b) 32) (smf (pr S a) (pr S b))) → (c = -4 ∨ 32 < plen (pr S a) 32 + plen (pr S b) 32 - 1) → Q (some (.int (iI (-4)))) (hp g sh S) n) (h1 : (0 ≤ t ∧ t < 8) → (0 ≤ a ∧ a < 8) → (0 ≤ b ∧ b < 8) → (0 ≤ wy ∧ wy < w) → ∀ c : Int, c = (ctO (kd wy) (cu wy) (plen (pr S a) 32) (plen (pr S b) 32) (smf (pr S a) (pr S b))) → ¬ (c = -4 ∨ 32 < plen (pr S a) 32 + plen (pr S b) 32 - 1) → ∀ S' : SS, PbE p sh S t (pmul p (pr S a) (pr S b)) S' → Q (some (.int (iI c))) (hp g sh (setF S' 0 6 (S.1 0 6 + c))) n) : GCall g mX9_times 6 0 0 [gr g 0, .int (iI t), .int (iI a), .int (iI b), .int (iI wy)] (hp g sh S) n Q := by
  have h00 := hW.1.1
  refine GCall.of (by decide) (Nat.le_of_ble_eq_true rfl) (ls := [(0, _), (1, _), (2, _), (3, _), (4, _)]) rfl ?_
  refine G_iload_n (pc := 0) dX9_times_0 rfl ?_
  refine G_iload_n (pc := 1) dX9_times_1 rfl ?_
  refine G_iload_n (pc := 2) dX9_times_2 rfl ?_
  refine G_callS (pc := 3) (d2 := 3) (mc2 := 0) (ms2 := 0) (As := [_, _, _]) dX9_times_3 kX9_arePolys lkX9_132 rfl rfl (Nat.le_of_ble_eq_true rfl) ⟨by decide, by decide⟩ (by decide) ?_
  refine c_X9_arePolys (by omega) (fun w3 => ?_) (fun w3 => ?_)
  · show G _ _ _ _ _ _ _ _ _ _ _ _ _
    refine G_if_eq_f (pc := 6) 18 dX9_times_6 rfl (by decide) (by decide) ?_
    refine S_aload_n (pc := 9) dX9_times_9 rfl ?_
    refine G_iload (pc := 10) dX9_times_10 rfl ?_
    refine S_callV (pc := 12) (ci := 9) (d2 := 2) (mc2 := 0) (ms2 := 0) (As := [_]) dX9_times_12 kX9_isWay lkX9_153 (by assumption) rfl rfl rfl (Nat.le_of_ble_eq_true rfl) ⟨by decide, by decide⟩ (by decide) ?_
    refine c_X9_isWay hW hV (by omega) (fun w12 => ?_) (fun w12 => ?_)
    · show G _ _ _ _ _ _ _ _ _ _ _ _ _
      refine G_if_ne_t (pc := 15) 21 dX9_times_15 rfl (by decide) (by decide) ?_
      refine S_aload_n (pc := 21) dX9_times_21 rfl ?_
      refine G_iload_n (pc := 22) dX9_times_22 rfl ?_
      refine G_iload_n (pc := 23) dX9_times_23 rfl ?_
      refine G_iload_n (pc := 24) dX9_times_24 rfl ?_
      refine G_iload (pc := 25) dX9_times_25 rfl ?_
      refine S_callV (pc := 27) (ci := 9) (d2 := 5) (mc2 := 0) (ms2 := 0) (As := [_, _, _, _]) dX9_times_27 kX9_multiply lkX9_156 (by assumption) rfl rfl rfl (Nat.le_of_ble_eq_true rfl) ⟨by decide, by decide⟩ (by decide) ?_
      refine c_X9_multiply hW hV w3.1 w3.2.1 w3.2.2 w12 rfl (fun z => ?_) (fun z S' hE => ?_)
      · show G _ _ _ _ _ _ _ _ _ _ _ _ _
        refine G_iret (pc := 30) dX9_times_30 rfl (by decide) ?_
        first | exact h0 (by omega) | exact h2 w3.1 w3.2.1 w3.2.2 w12 _ rfl z | exact h1 w3.1 w3.2.1 w3.2.2 w12 _ rfl z S' hE
      · show G _ _ _ _ _ _ _ _ _ _ _ _ _
        refine G_iret (pc := 30) dX9_times_30 rfl (by decide) ?_
        first | exact h0 (by omega) | exact h2 w3.1 w3.2.1 w3.2.2 w12 _ rfl z | exact h1 w3.1 w3.2.1 w3.2.2 w12 _ rfl z S' hE
    · show G _ _ _ _ _ _ _ _ _ _ _ _ _
      refine G_if_ne_f (pc := 15) 21 dX9_times_15 rfl (by decide) (by decide) ?_
      refine G_bipush (pc := 18) dX9_times_18 rfl ?_
      refine G_iret (pc := 20) dX9_times_20 rfl (by decide) ?_
      first | exact h0 (by omega) | exact h2 w3.1 w3.2.1 w3.2.2 w12 _ rfl z | exact h1 w3.1 w3.2.1 w3.2.2 w12 _ rfl z S' hE
  · show G _ _ _ _ _ _ _ _ _ _ _ _ _
    refine G_if_eq_t (pc := 6) 18 dX9_times_6 rfl (by decide) (by decide) ?_
    refine G_bipush (pc := 18) dX9_times_18 rfl ?_
    refine G_iret (pc := 20) dX9_times_20 rfl (by decide) ?_
    first | exact h0 (by omega) | exact h2 w3.1 w3.2.1 w3.2.2 w12 _ rfl z | exact h1 w3.1 w3.2.1 w3.2.2 w12 _ rfl z S' hE
set_option maxRecDepth 100000 in
set_option maxHeartbeats 4000000 in
theorem c_X9_cost {g : GC} {p w a b wy : Int} {kd cu : Int → Int} {sh : SH} {S : SS} {n : Nat} {Q : Option Value → GA → Nat → Prop} (hW : PbW p sh S) (hV : VwW sh S w kd cu) (hr : (-2147483648 ≤ a ∧ a ≤ 2147483647) ∧ (-2147483648 ≤ b ∧ b ≤ 2147483647) ∧ (-2147483648 ≤ wy ∧ wy ≤ 2147483647)) (h0 : ¬ ((0 ≤ a ∧ a < 8) ∧ (0 ≤ b ∧ b < 8) ∧ (0 ≤ wy ∧ wy < w)) → Q (some (.int (iI (-2)))) (hp g sh S) n)
    (h1 : (0 ≤ a ∧ a < 8) → (0 ≤ b ∧ b < 8) → (0 ≤ wy ∧ wy < w) → Q (some (.int (iI (ctO (kd wy) (cu wy) (plen (pr S a) 32) (plen (pr S b) 32) (smf (pr S a) (pr S b)))))) (hp g sh S) n) : GCall g mX9_cost 5 0 0 [gr g 0, .int (iI a), .int (iI b), .int (iI wy)] (hp g sh S) n Q := by
  have h00 := hW.1.1
  refine GCall.of (by decide) (Nat.le_of_ble_eq_true rfl) (ls := [(0, _), (1, _), (2, _), (3, _)]) rfl ?_
  refine G_iload_n (pc := 0) dX9_cost_0 rfl ?_
  refine G_callS (pc := 1) (d2 := 2) (mc2 := 0) (ms2 := 0) (As := [_]) dX9_cost_1 kX9_isPoly lkX9_107 rfl rfl (Nat.le_of_ble_eq_true rfl) ⟨by decide, by decide⟩ (by decide) ?_
  refine c_X9_isPoly (by omega) (fun w1 => ?_) (fun w1 => ?_)
  · show G _ _ _ _ _ _ _ _ _ _ _ _ _
    refine G_if_eq_f (pc := 4) 22 dX9_cost_4 rfl (by decide) (by decide) ?_
    refine G_iload_n (pc := 7) dX9_cost_7 rfl ?_
    refine G_callS (pc := 8) (d2 := 2) (mc2 := 0) (ms2 := 0) (As := [_]) dX9_cost_8 kX9_isPoly lkX9_107 rfl rfl (Nat.le_of_ble_eq_true rfl) ⟨by decide, by decide⟩ (by decide) ?_
    refine c_X9_isPoly (by omega) (fun w8 => ?_) (fun w8 => ?_)
    · show G _ _ _ _ _ _ _ _ _ _ _ _ _
      refine G_if_eq_f (pc := 11) 22 dX9_cost_11 rfl (by decide) (by decide) ?_
      refine S_aload_n (pc := 14) dX9_cost_14 rfl ?_
      refine G_iload_n (pc := 15) dX9_cost_15 rfl ?_
      refine S_callV (pc := 16) (ci := 9) (d2 := 2) (mc2 := 0) (ms2 := 0) (As := [_]) dX9_cost_16 kX9_isWay lkX9_153 (by assumption) rfl rfl rfl (Nat.le_of_ble_eq_true rfl) ⟨by decide, by decide⟩ (by decide) ?_
      refine c_X9_isWay hW hV (by omega) (fun w16 => ?_) (fun w16 => ?_)
      · show G _ _ _ _ _ _ _ _ _ _ _ _ _
        refine G_if_ne_t (pc := 19) 25 dX9_cost_19 rfl (by decide) (by decide) ?_
        refine S_aload_n (pc := 25) dX9_cost_25 rfl ?_
        refine G_iload_n (pc := 26) dX9_cost_26 rfl ?_
        refine G_iload_n (pc := 27) dX9_cost_27 rfl ?_
        refine G_iload_n (pc := 28) dX9_cost_28 rfl ?_
        refine S_callV (pc := 29) (ci := 9) (d2 := 4) (mc2 := 0) (ms2 := 0) (As := [_, _, _]) dX9_cost_29 kX9_countFor lkX9_160 (by assumption) rfl rfl rfl (Nat.le_of_ble_eq_true rfl) ⟨by decide, by decide⟩ (by decide) ?_
        refine c_X9_countFor hW hV w1 w8 w16 ?_
        show G _ _ _ _ _ _ _ _ _ _ _ _ _
        refine G_iret (pc := 32) dX9_cost_32 rfl (by decide) ?_
        first | exact h0 (by omega) | exact h1 w1 w8 w16
      · show G _ _ _ _ _ _ _ _ _ _ _ _ _
        refine G_if_ne_f (pc := 19) 25 dX9_cost_19 rfl (by decide) (by decide) ?_
        refine G_bipush (pc := 22) dX9_cost_22 rfl ?_
        refine G_iret (pc := 24) dX9_cost_24 rfl (by decide) ?_
        first | exact h0 (by omega) | exact h1 w1 w8 w16
    · show G _ _ _ _ _ _ _ _ _ _ _ _ _
      refine G_if_eq_t (pc := 11) 22 dX9_cost_11 rfl (by decide) (by decide) ?_
      refine G_bipush (pc := 22) dX9_cost_22 rfl ?_
      refine G_iret (pc := 24) dX9_cost_24 rfl (by decide) ?_
      first | exact h0 (by omega) | exact h1 w1 w8 w16
  · show G _ _ _ _ _ _ _ _ _ _ _ _ _
    refine G_if_eq_t (pc := 4) 22 dX9_cost_4 rfl (by decide) (by decide) ?_
    refine G_bipush (pc := 22) dX9_cost_22 rfl ?_
    refine G_iret (pc := 24) dX9_cost_24 rfl (by decide) ?_
    first | exact h0 (by omega) | exact h1 w1 w8 w16
