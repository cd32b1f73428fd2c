/-! Places: reads, writes, counts -/
set_option maxRecDepth 100000 in
set_option maxHeartbeats 4000000 in
theorem c_X9_isWithin {g : GC} {h : GA} {n : Nat} {i s : Int} {Q : Option Value → GA → Nat → Prop} (hr : -2147483648 ≤ i ∧ i ≤ 2147483647 ∧ -2147483648 ≤ s ∧ s ≤ 2147483647) (h1 : 0 ≤ i ∧ i < s → Q (some (.int (iI 1))) h n) (h0 : ¬ (0 ≤ i ∧ i < s) → Q (some (.int (iI 0))) h n) : GCall g mX9_isWithin 1 0 0 [.int (iI i), .int (iI s)] h n Q := by
  refine GCall.of (by decide) (Nat.le_of_ble_eq_true rfl) (ls := [(0, _), (1, _)]) rfl ?_
  refine G_iload_n (pc := 0) dX9_isWithin_0 rfl ?_
  refine G_if_lt (pc := 1) 13 dX9_isWithin_1 rfl (by omega) (fun c1 => ?_) (fun c1 => ?_)
  · skip
    refine G_iconst (pc := 13) dX9_isWithin_13 ?_
    refine G_zret (pc := 14) dX9_isWithin_14 rfl nar_z0 (by decide) ?_
    first | exact h1 (by omega) | exact h0 (by omega)
  · skip
    refine G_iload_n (pc := 4) dX9_isWithin_4 rfl ?_
    refine G_iload_n (pc := 5) dX9_isWithin_5 rfl ?_
    refine G_icmp_ge (pc := 6) 13 dX9_isWithin_6 rfl (by omega) (fun c6 => ?_) (fun c6 => ?_)
    · skip
      refine G_iconst (pc := 13) dX9_isWithin_13 ?_
      refine G_zret (pc := 14) dX9_isWithin_14 rfl nar_z0 (by decide) ?_
      first | exact h1 (by omega) | exact h0 (by omega)
    · skip
      refine G_iconst (pc := 9) dX9_isWithin_9 ?_
      refine G_goto (pc := 10) 14 dX9_isWithin_10 rfl ?_
      refine G_zret (pc := 14) dX9_isWithin_14 rfl nar_z1 (by decide) ?_
      first | exact h1 (by omega) | exact h0 (by omega)
def PlW (p : Int) (sh : SH) (S : SS) (m : Int) : Prop := sh 30 = some (.inl 2) ∧ S.2.2 30 0 = some 12 ∧ S.2.2 30 1 = some 13 ∧ S.2.2 30 2 = some 31 ∧ S.2.2 30 3 = some 32 ∧ S.2.2 30 5 = some 33 ∧ S.2.2 30 6 = some 35 ∧ sh 31 = some (.inr (1, 16)) ∧ sh 32 = some (.inr (1, 16)) ∧ S.1 30 4 = m ∧ (0 ≤ m ∧ m ≤ 16) ∧ Red p (S.2.1 31) ∧ Red p (S.2.1 32) ∧ Row p sh S 33 64 ∧ Row p sh S 35 64
set_option maxRecDepth 100000 in
set_option maxHeartbeats 4000000 in
theorem c_X2_size {g : GC} {p m : Int} {sh : SH} {S : SS} {n : Nat} {Q : Option Value → GA → Nat → Prop} (hW : PlW p sh S m) (hq : Q (some (.int (iI m))) (hp g sh S) n) : GCall g mX2_size 1 0 0 [gr g 30] (hp g sh S) n Q := by
  obtain ⟨h30, p0, p1, p2, p3, p5, p6, h31, h32, hm, hmb, r31, r32, R33, R35⟩ := hW
  refine GCall.of (by decide) (Nat.le_of_ble_eq_true rfl) (ls := [(0, _)]) rfl ?_
  refine S_aload_n (pc := 0) dX2_size_0 rfl ?_
  refine S_getI (pc := 1) dX2_size_1 fX2_47 (by assumption) rfl ?_
  rw [hm]
  refine G_iret (pc := 4) dX2_size_4 rfl (by decide) ?_
  exact hq
set_option maxRecDepth 100000 in
set_option maxHeartbeats 4000000 in
theorem c_X2_wipe {g : GC} {p m : Int} {sh : SH} {S : SS} {n : Nat} {Q : Option Value → GA → Nat → Prop} (hW : PlW p sh S m) (hq : Q none (hp g sh (setF S 30 4 0)) n) : GCall g mX2_wipe 1 0 0 [gr g 30] (hp g sh S) n Q := by
  obtain ⟨h30, p0, p1, p2, p3, p5, p6, h31, h32, hm, hmb, r31, r32, R33, R35⟩ := hW
  refine GCall.of (by decide) (Nat.le_of_ble_eq_true rfl) (ls := [(0, _)]) rfl ?_
  refine S_aload_n (pc := 0) dX2_wipe_0 rfl ?_
  refine G_iconst (pc := 1) dX2_wipe_1 ?_
  refine S_putI (pc := 2) dX2_wipe_2 fX2_47 (by assumption) rfl ⟨rfl, rfl⟩ ?_
  refine G_vret (pc := 5) dX2_wipe_5 rfl (by decide) ?_
  exact hq
set_option maxRecDepth 100000 in
set_option maxHeartbeats 4000000 in
theorem c_X2_append {g : GC} {p m x : Int} {sh : SH} {S : SS} {n : Nat} {Q : Option Value → GA → Nat → Prop} (hW : PlW p sh S m) (hm16 : m < 16) (hq : Q none (hp g sh (setF (setA (setA S 31 m x) 32 m 0) 30 4 (m + 1))) n) : GCall g mX2_append 1 0 0 [gr g 30, .int (iI x)] (hp g sh S) n Q := by
  obtain ⟨h30, p0, p1, p2, p3, p5, p6, h31, h32, hm, hmb, r31, r32, R33, R35⟩ := hW
  refine GCall.of (by decide) (Nat.le_of_ble_eq_true rfl) (ls := [(0, _), (1, _)]) rfl ?_
  have e1 : (setA S 31 m x).1 30 4 = m := hm
  have e2 : (setA (setA S 31 m x) 32 m 0).1 30 4 = m := hm
  refine S_aload_n (pc := 0) dX2_append_0 rfl ?_
  refine S_getI (pc := 1) dX2_append_1 fX2_47 (by assumption) rfl ?_
  rw [hm]
  refine G_bipush (pc := 4) dX2_append_4 rfl ?_
  refine G_icmp_ge_f (pc := 6) 39 dX2_append_6 rfl (by omega) (by omega) ?_
  refine S_aload_n (pc := 9) dX2_append_9 rfl ?_
  refine S_getR (pc := 10) dX2_append_10 fX2_9 (by assumption) rfl (by assumption) ?_
  refine S_aload_n (pc := 13) dX2_append_13 rfl ?_
  refine S_getI (pc := 14) dX2_append_14 fX2_47 (by assumption) rfl ?_
  rw [hm]
  refine G_iload_n (pc := 17) dX2_append_17 rfl ?_
  refine S_iast (pc := 18) dX2_append_18 (by assumption) (by omega) ?_
  refine S_aload_n (pc := 19) dX2_append_19 rfl ?_
  refine S_getR (pc := 20) dX2_append_20 fX2_15 (by assumption) rfl (by assumption) ?_
  refine S_aload_n (pc := 23) dX2_append_23 rfl ?_
  refine S_getI (pc := 24) dX2_append_24 fX2_47 (by assumption) rfl ?_
  rw [e1]
  refine G_iconst (pc := 27) dX2_append_27 ?_
  refine S_iast (pc := 28) dX2_append_28 (by assumption) (by omega) ?_
  refine S_aload_n (pc := 29) dX2_append_29 rfl ?_
  refine G_dup (pc := 30) dX2_append_30 rfl ?_
  refine S_getI (pc := 31) dX2_append_31 fX2_47 (by assumption) rfl ?_
  rw [e2]
  refine G_iconst (pc := 34) dX2_append_34 ?_
  refine G_iadd (pc := 35) dX2_append_35 ?_
  refine S_putI (pc := 36) dX2_append_36 fX2_47 (by assumption) rfl ⟨rfl, rfl⟩ ?_
  refine G_vret (pc := 39) dX2_append_39 rfl (by decide) ?_
  exact hq
/-- item i of a list of m, else 0 -/
def itm (xs : Int → Int) (m i : Int) : Int := if 0 ≤ i ∧ i < m then xs i else 0
theorem itm_in {xs : Int → Int} {m i : Int} (h : 0 ≤ i ∧ i < m) : itm xs m i = xs i := if_pos h
theorem itm_red {p : Int} {xs : Int → Int} {m i : Int} (hp : 0 < p) (h : Red p xs) : 0 ≤ itm xs m i ∧ itm xs m i < p := by
  unfold itm
  by_cases hi : 0 ≤ i ∧ i < m
  · rw [if_pos hi]; exact h i
  · rw [if_neg hi]; omega
set_option maxRecDepth 100000 in
set_option maxHeartbeats 4000000 in
theorem c_X2_numberOf {g : GC} {p m i : Int} {sh : SH} {S : SS} {n : Nat} {Q : Option Value → GA → Nat → Prop} (hW : PlW p sh S m) (hi : -2147483648 ≤ i ∧ i ≤ 2147483647) (hq : Q (some (.int (iI (itm (S.2.1 31) m i)))) (hp g sh S) n) : GCall g mX2_numberOf 2 0 0 [gr g 30, .int (iI i)] (hp g sh S) n Q := by
  obtain ⟨h30, p0, p1, p2, p3, p5, p6, h31, h32, hm, hmb, r31, r32, R33, R35⟩ := hW
  refine GCall.of (by decide) (Nat.le_of_ble_eq_true rfl) (ls := [(0, _), (1, _)]) rfl ?_
  refine G_iload_n (pc := 0) dX2_numberOf_0 rfl ?_
  refine S_aload_n (pc := 1) dX2_numberOf_1 rfl ?_
  refine S_getI (pc := 2) dX2_numberOf_2 fX2_47 (by assumption) rfl ?_
  rw [hm]
  refine G_callSN (pc := 5) (d2 := 1) (mc2 := 0) (ms2 := 0) (As := [_, _]) dX2_numberOf_5 kX9_isWithin lkX2_51 rfl rfl (Nat.le_of_ble_eq_true rfl) ⟨by decide, by decide⟩ (by decide) ?_
  refine c_X9_isWithin (by omega) (fun w5 => ?_) (fun w5 => ?_)
  · show G _ _ _ _ _ _ _ _ _ _ _ _ _
    refine G_if_eq_f (pc := 8) 20 dX2_numberOf_8 rfl (by decide) (by decide) ?_
    refine S_aload_n (pc := 11) dX2_numberOf_11 rfl ?_
    refine S_getR (pc := 12) dX2_numberOf_12 fX2_9 (by assumption) rfl (by assumption) ?_
    refine G_iload_n (pc := 15) dX2_numberOf_15 rfl ?_
    refine S_iald (pc := 16) dX2_numberOf_16 (by assumption) (by omega) ?_
    refine G_goto (pc := 17) 21 dX2_numberOf_17 rfl ?_
    refine G_iret (pc := 21) dX2_numberOf_21 rfl (by decide) ?_
    first | exact Q_i (by unfold itm; rw [if_pos (by omega)]) hq | exact Q_i (by unfold itm; rw [if_neg (by omega)]) hq
  · show G _ _ _ _ _ _ _ _ _ _ _ _ _
    refine G_if_eq_t (pc := 8) 20 dX2_numberOf_8 rfl (by decide) (by decide) ?_
    refine G_iconst (pc := 20) dX2_numberOf_20 ?_
    refine G_iret (pc := 21) dX2_numberOf_21 rfl (by decide) ?_
    first | exact Q_i (by unfold itm; rw [if_pos (by omega)]) hq | exact Q_i (by unfold itm; rw [if_neg (by omega)]) hq
set_option maxRecDepth 100000 in
set_option maxHeartbeats 4000000 in
theorem c_X2_valueOf {g : GC} {p m i : Int} {sh : SH} {S : SS} {n : Nat} {Q : Option Value → GA → Nat → Prop} (hW : PlW p sh S m) (hi : -2147483648 ≤ i ∧ i ≤ 2147483647) (hq : Q (some (.int (iI (itm (S.2.1 32) m i)))) (hp g sh S) n) : GCall g mX2_valueOf 2 0 0 [gr g 30, .int (iI i)] (hp g sh S) n Q := by
  obtain ⟨h30, p0, p1, p2, p3, p5, p6, h31, h32, hm, hmb, r31, r32, R33, R35⟩ := hW
  refine GCall.of (by decide) (Nat.le_of_ble_eq_true rfl) (ls := [(0, _), (1, _)]) rfl ?_
  refine G_iload_n (pc := 0) dX2_valueOf_0 rfl ?_
  refine S_aload_n (pc := 1) dX2_valueOf_1 rfl ?_
  refine S_getI (pc := 2) dX2_valueOf_2 fX2_47 (by assumption) rfl ?_
  rw [hm]
  refine G_callSN (pc := 5) (d2 := 1) (mc2 := 0) (ms2 := 0) (As := [_, _]) dX2_valueOf_5 kX9_isWithin lkX2_51 rfl rfl (Nat.le_of_ble_eq_true rfl) ⟨by decide, by decide⟩ (by decide) ?_
  refine c_X9_isWithin (by omega) (fun w5 => ?_) (fun w5 => ?_)
  · show G _ _ _ _ _ _ _ _ _ _ _ _ _
    refine G_if_eq_f (pc := 8) 20 dX2_valueOf_8 rfl (by decide) (by decide) ?_
    refine S_aload_n (pc := 11) dX2_valueOf_11 rfl ?_
    refine S_getR (pc := 12) dX2_valueOf_12 fX2_15 (by assumption) rfl (by assumption) ?_
    refine G_iload_n (pc := 15) dX2_valueOf_15 rfl ?_
    refine S_iald (pc := 16) dX2_valueOf_16 (by assumption) (by omega) ?_
    refine G_goto (pc := 17) 21 dX2_valueOf_17 rfl ?_
    refine G_iret (pc := 21) dX2_valueOf_21 rfl (by decide) ?_
    first | exact Q_i (by unfold itm; rw [if_pos (by omega)]) hq | exact Q_i (by unfold itm; rw [if_neg (by omega)]) hq
  · show G _ _ _ _ _ _ _ _ _ _ _ _ _
    refine G_if_eq_t (pc := 8) 20 dX2_valueOf_8 rfl (by decide) (by decide) ?_
    refine G_iconst (pc := 20) dX2_valueOf_20 ?_
    refine G_iret (pc := 21) dX2_valueOf_21 rfl (by decide) ?_
    first | exact Q_i (by unfold itm; rw [if_pos (by omega)]) hq | exact Q_i (by unfold itm; rw [if_neg (by omega)]) hq
set_option maxRecDepth 100000 in
set_option maxHeartbeats 4000000 in
theorem c_X2_give {g : GC} {p m i x : Int} {sh : SH} {S : SS} {n : Nat} {Q : Option Value → GA → Nat → Prop} (hW : PlW p sh S m) (hi : 0 ≤ i ∧ i < m) (hq : Q none (hp g sh (setA S 32 i x)) n) : GCall g mX2_give 2 0 0 [gr g 30, .int (iI i), .int (iI x)] (hp g sh S) n Q := by
  obtain ⟨h30, p0, p1, p2, p3, p5, p6, h31, h32, hm, hmb, r31, r32, R33, R35⟩ := hW
  refine GCall.of (by decide) (Nat.le_of_ble_eq_true rfl) (ls := [(0, _), (1, _), (2, _)]) rfl ?_
  refine G_iload_n (pc := 0) dX2_give_0 rfl ?_
  refine S_aload_n (pc := 1) dX2_give_1 rfl ?_
  refine S_getI (pc := 2) dX2_give_2 fX2_47 (by assumption) rfl ?_
  rw [hm]
  refine G_callSN (pc := 5) (d2 := 1) (mc2 := 0) (ms2 := 0) (As := [_, _]) dX2_give_5 kX9_isWithin lkX2_51 rfl rfl (Nat.le_of_ble_eq_true rfl) ⟨by decide, by decide⟩ (by decide) ?_
  refine c_X9_isWithin (by omega) (fun w5 => ?_) (fun w5 => ?_)
  · show G _ _ _ _ _ _ _ _ _ _ _ _ _
    refine G_if_eq_f (pc := 8) 18 dX2_give_8 rfl (by decide) (by decide) ?_
    refine S_aload_n (pc := 11) dX2_give_11 rfl ?_
    refine S_getR (pc := 12) dX2_give_12 fX2_15 (by assumption) rfl (by assumption) ?_
    refine G_iload_n (pc := 15) dX2_give_15 rfl ?_
    refine G_iload_n (pc := 16) dX2_give_16 rfl ?_
    refine S_iast (pc := 17) dX2_give_17 (by assumption) (by omega) ?_
    refine G_vret (pc := 18) dX2_give_18 rfl (by decide) ?_
    first | exact hq | omega
  · show G _ _ _ _ _ _ _ _ _ _ _ _ _
    refine G_if_eq_t (pc := 8) 18 dX2_give_8 rfl (by decide) (by decide) ?_
    refine G_vret (pc := 18) dX2_give_18 rfl (by decide) ?_
    first | exact hq | omega
/-- how often the number at pl stands among the first t -/
def tah (xs : Int → Int) (pl : Int) : Nat → Int
  | 0 => 0
  | t + 1 => tah xs pl t + (if xs (t : Int) = xs pl then 1 else 0)
theorem tah_bd {xs : Int → Int} {pl : Int} : ∀ t : Nat, 0 ≤ tah xs pl t ∧ tah xs pl t ≤ t
  | 0 => ⟨Int.le_refl _, Int.le_refl _⟩
  | t + 1 => by
    have := tah_bd (xs := xs) (pl := pl) t
    unfold tah
    by_cases h : xs (t : Int) = xs pl
    · rw [if_pos h]; omega
    · rw [if_neg h]; omega
set_option maxRecDepth 100000 in
set_option maxHeartbeats 4000000 in
theorem l_X2_timesAhead {g : GC} {p m pl : Int} {sh : SH} {S : SS} {n : Nat} {Q : Option Value → GA → Nat → Prop} (hW : PlW p sh S m) (hP : IsP p) (hpl : 0 ≤ pl ∧ pl < m) (hq : Q (some (.int (iI (tah (S.2.1 31) pl pl.toNat)))) (hp g sh S) n) : ∀ (k t : Nat), t + k = pl → G g mX2_timesAhead 3 0 0 4 [(3, .int (iI t)), (2, .int (iI (tah (S.2.1 31) pl t))), (0, gr g 30), (1, .int (iI pl))] [] (hp g sh S) n 0 0 Q := by
  have hW' := hW
  obtain ⟨h30, p0, p1, p2, p3, p5, p6, h31, h32, hm, hmb, r31, r32, R33, R35⟩ := hW'
  have hpb := hP.bd
  intro k
  induction k with
  | zero =>
    intro t ht
    refine G_iload_n (pc := 4) dX2_timesAhead_4 rfl ?_
    refine G_iload_n (pc := 5) dX2_timesAhead_5 rfl ?_
    refine G_icmp_ge_t (pc := 6) 31 dX2_timesAhead_6 rfl (by omega) (by omega) ?_
    refine G_iload_n (pc := 31) dX2_timesAhead_31 rfl ?_
    refine G_iret (pc := 32) dX2_timesAhead_32 rfl (by decide) ?_
    rw [show t = pl.toNat by omega]
    exact hq
  | succ k ih =>
    intro t ht
    have h1 := r31 t
    have h2 := r31 pl
    have e1 : itm (S.2.1 31) m t = S.2.1 31 t := itm_in (by omega)
    have e2 : itm (S.2.1 31) m pl = S.2.1 31 pl := itm_in hpl
    have hn := ih (t + 1) (by omega)
    unfold tah at hn
    rw [show ((t + 1 : Nat) : Int) = t + 1 by omega] at hn
    refine G_iload_n (pc := 4) dX2_timesAhead_4 rfl ?_
    refine G_iload_n (pc := 5) dX2_timesAhead_5 rfl ?_
    refine G_icmp_ge_f (pc := 6) 31 dX2_timesAhead_6 rfl (by omega) (by omega) ?_
    refine S_aload_n (pc := 9) dX2_timesAhead_9 rfl ?_
    refine G_iload_n (pc := 10) dX2_timesAhead_10 rfl ?_
    refine S_callV (pc := 11) (ci := 2) (d2 := 2) (mc2 := 0) (ms2 := 0) (As := [_]) dX2_timesAhead_11 kX2_numberOf lkX2_55 (by assumption) rfl rfl rfl (Nat.le_of_ble_eq_true rfl) ⟨by decide, by decide⟩ (by decide) ?_
    refine c_X2_numberOf hW (by omega) ?_
    rw [e1]
    show G _ _ _ _ _ _ _ _ _ _ _ _ _
    refine S_aload_n (pc := 14) dX2_timesAhead_14 rfl ?_
    refine G_iload_n (pc := 15) dX2_timesAhead_15 rfl ?_
    refine S_callV (pc := 16) (ci := 2) (d2 := 2) (mc2 := 0) (ms2 := 0) (As := [_]) dX2_timesAhead_16 kX2_numberOf lkX2_55 (by assumption) rfl rfl rfl (Nat.le_of_ble_eq_true rfl) ⟨by decide, by decide⟩ (by decide) ?_
    refine c_X2_numberOf hW (by omega) ?_
    rw [e2]
    show G _ _ _ _ _ _ _ _ _ _ _ _ _
    refine G_icmp_ne (pc := 19) 25 dX2_timesAhead_19 rfl (by omega) (fun c19 => ?_) (fun c19 => ?_)
    · skip
      refine G_iinc (pc := 25) (ls' := [(3, _), (2, _), (0, _), (1, _)]) dX2_timesAhead_25 rfl (by decide) rfl ?_
      refine G_goto (pc := 28) 4 dX2_timesAhead_28 rfl ?_
      first | (rw [if_neg c19, Int.add_zero] at hn; exact hn) | (rw [if_pos (by omega)] at hn; exact hn)
    · skip
      refine G_iinc (pc := 22) (ls' := [(2, _), (3, _), (0, _), (1, _)]) dX2_timesAhead_22 rfl (by decide) rfl ?_
      refine G_iinc (pc := 25) (ls' := [(3, _), (2, _), (0, _), (1, _)]) dX2_timesAhead_25 rfl (by decide) rfl ?_
      refine G_goto (pc := 28) 4 dX2_timesAhead_28 rfl ?_
      first | (rw [if_neg c19, Int.add_zero] at hn; exact hn) | (rw [if_pos (by omega)] at hn; exact hn)
set_option maxRecDepth 100000 in
set_option maxHeartbeats 4000000 in
theorem c_X2_timesAhead {g : GC} {p m pl : Int} {sh : SH} {S : SS} {n : Nat} {Q : Option Value → GA → Nat → Prop} (hW : PlW p sh S m) (hP : IsP p) (hpl : 0 ≤ pl ∧ pl < m) (hq : Q (some (.int (iI (tah (S.2.1 31) pl pl.toNat)))) (hp g sh S) n) : GCall g mX2_timesAhead 3 0 0 [gr g 30, .int (iI pl)] (hp g sh S) n Q := by
  refine GCall.of (by decide) (Nat.le_of_ble_eq_true rfl) (ls := [(0, _), (1, _)]) rfl ?_
  refine G_iconst (pc := 0) dX2_timesAhead_0 ?_
  refine G_istore_n (pc := 1) (ls' := [(2, _), (0, _), (1, _)]) dX2_timesAhead_1 (by decide) rfl ?_
  refine G_iconst (pc := 2) dX2_timesAhead_2 ?_
  refine G_istore_n (pc := 3) (ls' := [(3, _), (2, _), (0, _), (1, _)]) dX2_timesAhead_3 (by decide) rfl ?_
  exact l_X2_timesAhead hW hP hpl hq pl.toNat 0 (by omega)
set_option maxRecDepth 100000 in
set_option maxHeartbeats 4000000 in
theorem l_X2_hasAlike {g : GC} {p m : Int} {sh : SH} {S : SS} {n : Nat} {Q : Option Value → GA → Nat → Prop} (hW : PlW p sh S m) (hP : IsP p) (h1 : (∃ i : Int, 0 ≤ i ∧ i < m ∧ 0 < tah (S.2.1 31) i i.toNat) → Q (some (.int (iI 1))) (hp g sh S) n) (h0 : (∀ i : Int, 0 ≤ i → i < m → tah (S.2.1 31) i i.toNat = 0) → Q (some (.int (iI 0))) (hp g sh S) n) : ∀ (k : Nat) (i : Int), i + k = m → 0 ≤ i → (∀ j : Int, 0 ≤ j → j < i → tah (S.2.1 31) j j.toNat = 0) → G g mX2_hasAlike 4 0 0 2 [(1, .int (iI i)), (0, gr g 30)] [] (hp g sh S) n 0 0 Q := by
  have hW' := hW
  obtain ⟨h30, p0, p1, p2, p3, p5, p6, h31, h32, hm, hmb, r31, r32, R33, R35⟩ := hW'
  intro k
  induction k with
  | zero =>
    intro i hi hi0 hall
    refine G_iload_n (pc := 2) dX2_hasAlike_2 rfl ?_
    refine S_aload_n (pc := 3) dX2_hasAlike_3 rfl ?_
    refine S_getI (pc := 4) dX2_hasAlike_4 fX2_47 (by assumption) rfl ?_
    rw [hm]
    refine G_icmp_ge_t (pc := 7) 26 dX2_hasAlike_7 rfl (by omega) (by omega) ?_
    refine G_iconst (pc := 26) dX2_hasAlike_26 ?_
    refine G_zret (pc := 27) dX2_hasAlike_27 rfl nar_z0 (by decide) ?_
    exact h0 (fun j hj1 hj2 => hall j hj1 (by omega))
  | succ k ih =>
    intro i hi hi0 hall
    have ht := tah_bd (xs := S.2.1 31) (pl := i) i.toNat
    refine G_iload_n (pc := 2) dX2_hasAlike_2 rfl ?_
    refine S_aload_n (pc := 3) dX2_hasAlike_3 rfl ?_
    refine S_getI (pc := 4) dX2_hasAlike_4 fX2_47 (by assumption) rfl ?_
    rw [hm]
    refine G_icmp_ge_f (pc := 7) 26 dX2_hasAlike_7 rfl (by omega) (by omega) ?_
    refine S_aload_n (pc := 10) dX2_hasAlike_10 rfl ?_
    refine G_iload_n (pc := 11) dX2_hasAlike_11 rfl ?_
    refine S_callV (pc := 12) (ci := 2) (d2 := 3) (mc2 := 0) (ms2 := 0) (As := [_]) dX2_hasAlike_12 kX2_timesAhead lkX2_59 (by assumption) rfl rfl rfl (Nat.le_of_ble_eq_true rfl) ⟨by decide, by decide⟩ (by decide) ?_
    refine c_X2_timesAhead hW hP (by omega) ?_
    show G _ _ _ _ _ _ _ _ _ _ _ _ _
    refine G_if_le (pc := 15) 20 dX2_hasAlike_15 rfl (by omega) (fun c15 => ?_) (fun c15 => ?_)
    · skip
      refine G_iinc (pc := 20) (ls' := [(1, _), (0, _)]) dX2_hasAlike_20 rfl (by decide) rfl ?_
      refine G_goto (pc := 23) 2 dX2_hasAlike_23 rfl ?_
      refine ih (i + 1) (by omega) (by omega) (fun j hj1 hj2 => ?_)
      by_cases hj : j = i
      · rw [hj]; omega
      · exact hall j hj1 (by omega)
    · skip
      refine G_iconst (pc := 18) dX2_hasAlike_18 ?_
      refine G_zret (pc := 19) dX2_hasAlike_19 rfl nar_z1 (by decide) ?_
      exact h1 ⟨i, hi0, by omega, by omega⟩
set_option maxRecDepth 100000 in
set_option maxHeartbeats 4000000 in
theorem c_X2_hasAlike {g : GC} {p m : Int} {sh : SH} {S : SS} {n : Nat} {Q : Option Value → GA → Nat → Prop} (hW : PlW p sh S m) (hP : IsP p) (h1 : (∃ i : Int, 0 ≤ i ∧ i < m ∧ 0 < tah (S.2.1 31) i i.toNat) → Q (some (.int (iI 1))) (hp g sh S) n) (h0 : (∀ i : Int, 0 ≤ i → i < m → tah (S.2.1 31) i i.toNat = 0) → Q (some (.int (iI 0))) (hp g sh S) n) : GCall g mX2_hasAlike 4 0 0 [gr g 30] (hp g sh S) n Q := by
  have hmb := hW.2.2.2.2.2.2.2.2.2.2.1
  refine GCall.of (by decide) (Nat.le_of_ble_eq_true rfl) (ls := [(0, _)]) rfl ?_
  refine G_iconst (pc := 0) dX2_hasAlike_0 ?_
  refine G_istore_n (pc := 1) (ls' := [(1, _), (0, _)]) dX2_hasAlike_1 (by decide) rfl ?_
  exact l_X2_hasAlike hW hP h1 h0 m.toNat 0 (by omega) (by omega) (fun j hj1 hj2 => by omega)
/-- how many of the first t values aren't a row's at their numbers -/
def wrg (p : Int) (r xs vs : Int → Int) : Nat → Int
  | 0 => 0
  | t + 1 => wrg p r xs vs t + (if ev r (xs (t : Int)) 64 % p = vs (t : Int) then 0 else 1)
theorem wrg_bd {p : Int} {r xs vs : Int → Int} : ∀ t : Nat, 0 ≤ wrg p r xs vs t ∧ wrg p r xs vs t ≤ t
  | 0 => ⟨Int.le_refl _, Int.le_refl _⟩
  | t + 1 => by
    have := wrg_bd (p := p) (r := r) (xs := xs) (vs := vs) t
    unfold wrg
    by_cases h : ev r (xs (t : Int)) 64 % p = vs (t : Int)
    · rw [if_pos h]; omega
    · rw [if_neg h]; omega
set_option maxRecDepth 100000 in
set_option maxHeartbeats 4000000 in
theorem l_X2_wrongFor {g : GC} {p m : Int} {sh : SH} {S : SS} {n a : Nat} {Q : Option Value → GA → Nat → Prop} (hW : PlW p sh S m) (hA : Alg p sh S) (ha : Row p sh S a 64) (hq : Q (some (.int (iI (wrg p (rv S a) (S.2.1 31) (S.2.1 32) m.toNat)))) (hp g sh S) n) : ∀ (k t : Nat), t + k = m → G g mX2_wrongFor 3 0 0 4 [(3, .int (iI t)), (2, .int (iI (wrg p (rv S a) (S.2.1 31) (S.2.1 32) t))), (0, gr g 30), (1, gr g a)] [] (hp g sh S) n 0 0 Q := by
  have hW' := hW
  obtain ⟨h30, p0, p1, p2, p3, p5, p6, h31, h32, hm, hmb, r31, r32, R33, R35⟩ := hW'
  have hpb := hA.1.bd
  have h13 := hA.2.2.1
  intro k
  induction k with
  | zero =>
    intro t ht
    refine G_iload_n (pc := 4) dX2_wrongFor_4 rfl ?_
    refine S_aload_n (pc := 5) dX2_wrongFor_5 rfl ?_
    refine S_getI (pc := 6) dX2_wrongFor_6 fX2_47 (by assumption) rfl ?_
    rw [hm]
    refine G_icmp_ge_t (pc := 9) 42 dX2_wrongFor_9 rfl (by omega) (by omega) ?_
    refine G_iload_n (pc := 42) dX2_wrongFor_42 rfl ?_
    refine G_iret (pc := 43) dX2_wrongFor_43 rfl (by decide) ?_
    rw [show t = m.toNat by omega]
    exact hq
  | succ k ih =>
    intro t ht
    have h1 := r31 t
    have h2 := r32 t
    have e1 : itm (S.2.1 31) m t = S.2.1 31 t := itm_in (by omega)
    have e2 : itm (S.2.1 32) m t = S.2.1 32 t := itm_in (by omega)
    have hev := em_bd (z := ev (rv S a) (S.2.1 31 t) 64) (p := p) (by omega)
    have hn := ih (t + 1) (by omega)
    unfold wrg at hn
    rw [show ((t + 1 : Nat) : Int) = t + 1 by omega] at hn
    refine G_iload_n (pc := 4) dX2_wrongFor_4 rfl ?_
    refine S_aload_n (pc := 5) dX2_wrongFor_5 rfl ?_
    refine S_getI (pc := 6) dX2_wrongFor_6 fX2_47 (by assumption) rfl ?_
    rw [hm]
    refine G_icmp_ge_f (pc := 9) 42 dX2_wrongFor_9 rfl (by omega) (by omega) ?_
    refine S_aload_n (pc := 12) dX2_wrongFor_12 rfl ?_
    refine S_getR (pc := 13) dX2_wrongFor_13 fX2_43 (by assumption) rfl (by assumption) ?_
    refine S_aload_n (pc := 16) dX2_wrongFor_16 rfl ?_
    refine S_aload_n (pc := 17) dX2_wrongFor_17 rfl ?_
    refine G_iload_n (pc := 18) dX2_wrongFor_18 rfl ?_
    refine S_callV (pc := 19) (ci := 2) (d2 := 2) (mc2 := 0) (ms2 := 0) (As := [_]) dX2_wrongFor_19 kX2_numberOf lkX2_55 (by assumption) rfl rfl rfl (Nat.le_of_ble_eq_true rfl) ⟨by decide, by decide⟩ (by decide) ?_
    refine c_X2_numberOf hW (by omega) ?_
    rw [e1]
    show G _ _ _ _ _ _ _ _ _ _ _ _ _
    refine S_callV (pc := 22) (ci := 0) (d2 := 2) (mc2 := 0) (ms2 := 0) (As := [_, _]) dX2_wrongFor_22 kX0_evaluated lkX2_121 (by assumption) rfl rfl rfl (Nat.le_of_ble_eq_true rfl) ⟨by decide, by decide⟩ (by decide) ?_
    refine c_X0_evaluated hA ha h1 ?_
    show G _ _ _ _ _ _ _ _ _ _ _ _ _
    refine S_aload_n (pc := 25) dX2_wrongFor_25 rfl ?_
    refine G_iload_n (pc := 26) dX2_wrongFor_26 rfl ?_
    refine S_callV (pc := 27) (ci := 2) (d2 := 2) (mc2 := 0) (ms2 := 0) (As := [_]) dX2_wrongFor_27 kX2_valueOf lkX2_69 (by assumption) rfl rfl rfl (Nat.le_of_ble_eq_true rfl) ⟨by decide, by decide⟩ (by decide) ?_
    refine c_X2_valueOf hW (by omega) ?_
    rw [e2]
    show G _ _ _ _ _ _ _ _ _ _ _ _ _
    refine G_icmp_eq (pc := 30) 36 dX2_wrongFor_30 rfl (by omega) (fun c30 => ?_) (fun c30 => ?_)
    · skip
      refine G_iinc (pc := 36) (ls' := [(3, _), (2, _), (0, _), (1, _)]) dX2_wrongFor_36 rfl (by decide) rfl ?_
      refine G_goto (pc := 39) 4 dX2_wrongFor_39 rfl ?_
      first | (rw [if_pos c30, Int.add_zero] at hn; exact hn) | (rw [if_neg c30] at hn; exact hn)
    · skip
      refine G_iinc (pc := 33) (ls' := [(2, _), (3, _), (0, _), (1, _)]) dX2_wrongFor_33 rfl (by decide) rfl ?_
      refine G_iinc (pc := 36) (ls' := [(3, _), (2, _), (0, _), (1, _)]) dX2_wrongFor_36 rfl (by decide) rfl ?_
      refine G_goto (pc := 39) 4 dX2_wrongFor_39 rfl ?_
      first | (rw [if_pos c30, Int.add_zero] at hn; exact hn) | (rw [if_neg c30] at hn; exact hn)
set_option maxRecDepth 100000 in
set_option maxHeartbeats 4000000 in
theorem c_X2_wrongFor {g : GC} {p m : Int} {sh : SH} {S : SS} {n a : Nat} {Q : Option Value → GA → Nat → Prop} (hW : PlW p sh S m) (hA : Alg p sh S) (ha : Row p sh S a 64) (hq : Q (some (.int (iI (wrg p (rv S a) (S.2.1 31) (S.2.1 32) m.toNat)))) (hp g sh S) n) : GCall g mX2_wrongFor 3 0 0 [gr g 30, gr g a] (hp g sh S) n Q := by
  have hmb := hW.2.2.2.2.2.2.2.2.2.2.1
  refine GCall.of (by decide) (Nat.le_of_ble_eq_true rfl) (ls := [(0, _), (1, _)]) rfl ?_
  refine G_iconst (pc := 0) dX2_wrongFor_0 ?_
  refine G_istore_n (pc := 1) (ls' := [(2, _), (0, _), (1, _)]) dX2_wrongFor_1 (by decide) rfl ?_
  refine G_iconst (pc := 2) dX2_wrongFor_2 ?_
  refine G_istore_n (pc := 3) (ls' := [(3, _), (2, _), (0, _), (1, _)]) dX2_wrongFor_3 (by decide) rfl ?_
  exact l_X2_wrongFor hW hA ha hq m.toNat 0 (by omega)
/-- SUM e of the first t -/
def smd (p : Int) (xs vs : Int → Int) (e : Nat) : Nat → Int
  | 0 => 0
  | t + 1 => (smd p xs vs e t + vs (t : Int) * (xs (t : Int) ^ e % p)) % p
theorem smd_bd {p : Int} {xs vs : Int → Int} {e : Nat} (hp : 0 < p) : ∀ t : Nat, 0 ≤ smd p xs vs e t ∧ smd p xs vs e t < p
  | 0 => ⟨Int.le_refl _, hp⟩
  | _ + 1 => em_bd hp
set_option maxRecDepth 100000 in
set_option maxHeartbeats 4000000 in
theorem l_X2_summed {g : GC} {p m e : Int} {sh : SH} {S : SS} {n : Nat} {Q : Option Value → GA → Nat → Prop} (hW : PlW p sh S m) (hrs : IsRests p sh S 12) (hP : IsP p) (he : 0 ≤ e ∧ e ≤ 2147483647) (hq : Q (some (.int (iI (smd p (S.2.1 31) (S.2.1 32) e.toNat m.toNat)))) (hp g sh S) n) : ∀ (k t : Nat), t + k = m → G g mX2_summed 3 0 0 4 [(3, .int (iI t)), (2, .int (iI (smd p (S.2.1 31) (S.2.1 32) e.toNat t))), (0, gr g 30), (1, .int (iI e))] [] (hp g sh S) n 0 0 Q := by
  have hW' := hW
  obtain ⟨h30, p0, p1, p2, p3, p5, p6, h31, h32, hm, hmb, r31, r32, R33, R35⟩ := hW'
  have hpb := hP.bd
  have hrs1 := hrs.1
  intro k
  induction k with
  | zero =>
    intro t ht
    refine G_iload_n (pc := 4) dX2_summed_4 rfl ?_
    refine S_aload_n (pc := 5) dX2_summed_5 rfl ?_
    refine S_getI (pc := 6) dX2_summed_6 fX2_47 (by assumption) rfl ?_
    rw [hm]
    refine G_icmp_ge_t (pc := 9) 50 dX2_summed_9 rfl (by omega) (by omega) ?_
    refine G_iload_n (pc := 50) dX2_summed_50 rfl ?_
    refine G_iret (pc := 51) dX2_summed_51 rfl (by decide) ?_
    rw [show t = m.toNat by omega]
    exact hq
  | succ k ih =>
    intro t ht
    have h1 := r31 t
    have h2 := r32 t
    have e1 : itm (S.2.1 31) m t = S.2.1 31 t := itm_in (by omega)
    have e2 : itm (S.2.1 32) m t = S.2.1 32 t := itm_in (by omega)
    have hs := smd_bd (p := p) (xs := S.2.1 31) (vs := S.2.1 32) (e := e.toNat) (by omega) t
    have hpw := em_bd (z := S.2.1 31 t ^ e.toNat) (p := p) (by omega)
    have hmm := mul_bd h2 hpw hpb.2
    have hn := ih (t + 1) (by omega)
    unfold smd at hn
    rw [show ((t + 1 : Nat) : Int) = t + 1 by omega] at hn
    refine G_iload_n (pc := 4) dX2_summed_4 rfl ?_
    refine S_aload_n (pc := 5) dX2_summed_5 rfl ?_
    refine S_getI (pc := 6) dX2_summed_6 fX2_47 (by assumption) rfl ?_
    rw [hm]
    refine G_icmp_ge_f (pc := 9) 50 dX2_summed_9 rfl (by omega) (by omega) ?_
    refine S_aload_n (pc := 12) dX2_summed_12 rfl ?_
    refine S_getR (pc := 13) dX2_summed_13 fX2_39 (by assumption) rfl (by assumption) ?_
    refine G_iload_n (pc := 16) dX2_summed_16 rfl ?_
    refine G_i2l (pc := 17) dX2_summed_17 (by omega) ?_
    refine S_aload_n (pc := 18) dX2_summed_18 rfl ?_
    refine G_iload_n (pc := 19) dX2_summed_19 rfl ?_
    refine S_callV (pc := 20) (ci := 2) (d2 := 2) (mc2 := 0) (ms2 := 0) (As := [_]) dX2_summed_20 kX2_valueOf lkX2_69 (by assumption) rfl rfl rfl (Nat.le_of_ble_eq_true rfl) ⟨by decide, by decide⟩ (by decide) ?_
    refine c_X2_valueOf hW (by omega) ?_
    rw [e2]
    show G _ _ _ _ _ _ _ _ _ _ _ _ _
    refine G_i2l (pc := 23) dX2_summed_23 (by omega) ?_
    refine S_aload_n (pc := 24) dX2_summed_24 rfl ?_
    refine S_getR (pc := 25) dX2_summed_25 fX2_39 (by assumption) rfl (by assumption) ?_
    refine S_aload_n (pc := 28) dX2_summed_28 rfl ?_
    refine G_iload_n (pc := 29) dX2_summed_29 rfl ?_
    refine S_callV (pc := 30) (ci := 2) (d2 := 2) (mc2 := 0) (ms2 := 0) (As := [_]) dX2_summed_30 kX2_numberOf lkX2_55 (by assumption) rfl rfl rfl (Nat.le_of_ble_eq_true rfl) ⟨by decide, by decide⟩ (by decide) ?_
    refine c_X2_numberOf hW (by omega) ?_
    rw [e1]
    show G _ _ _ _ _ _ _ _ _ _ _ _ _
    refine G_iload_n (pc := 33) dX2_summed_33 rfl ?_
    refine S_callV (pc := 34) (ci := 3) (d2 := 2) (mc2 := 0) (ms2 := 0) (As := [_, _]) dX2_summed_34 kX3_raised lkX2_132 (by assumption) rfl rfl rfl (Nat.le_of_ble_eq_true rfl) ⟨by decide, by decide⟩ (by decide) ?_
    refine c_X3_raised hrs hP h1 he ?_
    show G _ _ _ _ _ _ _ _ _ _ _ _ _
    refine G_i2l (pc := 37) dX2_summed_37 (by omega) ?_
    refine G_lmul (pc := 38) dX2_summed_38 ?_
    refine G_ladd (pc := 39) dX2_summed_39 ?_
    refine S_callV (pc := 40) (ci := 3) (d2 := 1) (mc2 := 0) (ms2 := 0) (As := [_]) dX2_summed_40 kX3_rest lkX2_81 (by assumption) rfl rfl rfl (Nat.le_of_ble_eq_true rfl) ⟨by decide, by decide⟩ (by decide) ?_
    refine c_X3_rest hrs hP (by omega) ?_
    show G _ _ _ _ _ _ _ _ _ _ _ _ _
    refine G_istore_n (pc := 43) (ls' := [(2, _), (3, _), (0, _), (1, _)]) dX2_summed_43 (by decide) rfl ?_
    refine G_iinc (pc := 44) (ls' := [(3, _), (2, _), (0, _), (1, _)]) dX2_summed_44 rfl (by decide) rfl ?_
    refine G_goto (pc := 47) 4 dX2_summed_47 rfl ?_
    exact hn
set_option maxRecDepth 100000 in
set_option maxHeartbeats 4000000 in
theorem c_X2_summed {g : GC} {p m e : Int} {sh : SH} {S : SS} {n : Nat} {Q : Option Value → GA → Nat → Prop} (hW : PlW p sh S m) (hrs : IsRests p sh S 12) (hP : IsP p) (he : 0 ≤ e ∧ e ≤ 2147483647) (hq : Q (some (.int (iI (smd p (S.2.1 31) (S.2.1 32) e.toNat m.toNat)))) (hp g sh S) n) : GCall g mX2_summed 3 0 0 [gr g 30, .int (iI e)] (hp g sh S) n Q := by
  have hmb := hW.2.2.2.2.2.2.2.2.2.2.1
  refine GCall.of (by decide) (Nat.le_of_ble_eq_true rfl) (ls := [(0, _), (1, _)]) rfl ?_
  refine G_iconst (pc := 0) dX2_summed_0 ?_
  refine G_istore_n (pc := 1) (ls' := [(2, _), (0, _), (1, _)]) dX2_summed_1 (by decide) rfl ?_
  refine G_iconst (pc := 2) dX2_summed_2 ?_
  refine G_istore_n (pc := 3) (ls' := [(3, _), (2, _), (0, _), (1, _)]) dX2_summed_3 (by decide) rfl ?_
  exact l_X2_summed hW hrs hP he hq m.toNat 0 (by omega)
