/-! Way -/
def WyW (sh : SH) (S : SS) (w : Nat) (kd cut : Int) (X : Int → Int) : Prop := sh w = some (.inl 8) ∧ sh (w + 1) = some (.inr (1, 33)) ∧ S.2.2 w 2 = some (w + 1) ∧ S.1 w 0 = kd ∧ S.1 w 1 = cut ∧ S.2.1 (w + 1) = X
def wpt (kd cut : Int) (X : Int → Int) (s : Int) : Int := if s ≤ cut ∨ (kd = 2 ∧ s ≤ 2) then s * s else if kd = 1 ∨ (kd = 4 ∧ s ≤ 3 * cut) then 2 * X ((s + 1) / 2) + X (s - (s + 1) / 2) else 5 * X ((s + 2) / 3)
def wtb (kd cut : Int) : Nat → Int → Int
  | 0 => pz
  | t + 1 => iup (wtb kd cut t) ((t + 1 : Nat) : Int) (wpt kd cut (wtb kd cut t) ((t + 1 : Nat) : Int))
theorem wtb_all : (List.range 17).all (fun c => (List.range 33).all (fun s => decide (c = 0 ∨ ((wtb 1 (c : Int) 32) (s : Int) = (lyO 1 (c : Int) pz pz 33).1 (s : Int) ∧ (wtb 2 (c : Int) 32) (s : Int) = (lyO 2 (c : Int) pz pz 33).2 (s : Int) ∧ (wtb 4 (c : Int) 32) (s : Int) = (lyO 4 (c : Int) pz pz 33).2 (s : Int))))) = true := by decide +kernel
theorem wtb_ly {c s : Int} (hc : 1 ≤ c ∧ c ≤ 16) (hs : 0 ≤ s ∧ s ≤ 32) : wtb 1 c 32 s = (lyO 1 c pz pz 33).1 s ∧ wtb 2 c 32 s = (lyO 2 c pz pz 33).2 s ∧ wtb 4 c 32 s = (lyO 4 c pz pz 33).2 s := by
  obtain ⟨a, rfl⟩ : ∃ a : Nat, c = a := ⟨c.toNat, by omega⟩
  obtain ⟨b, rfl⟩ : ∃ b : Nat, s = b := ⟨s.toNat, by omega⟩
  have h := of_decide_eq_true (List.all_eq_true.mp (List.all_eq_true.mp wtb_all a (List.mem_range.mpr (by omega))) b (List.mem_range.mpr (by omega)))
  rcases h with h | h
  · omega
  · exact h
set_option maxRecDepth 100000 in
set_option maxHeartbeats 4000000 in
theorem c_X8_kind {g : GC} {sh : SH} {S : SS} {n w : Nat} {kd cut : Int} {X : Int → Int} {Q : Option Value → GA → Nat → Prop} (hW : WyW sh S w kd cut X) (hq : Q (some (.int (iI kd))) (hp g sh S) n) : GCall g mX8_kind 1 0 0 [gr g w] (hp g sh S) n Q := by
  obtain ⟨h8, ha, q2, e0, e1, eX⟩ := hW
  refine GCall.of (by decide) (Nat.le_of_ble_eq_true rfl) (ls := [(0, _)]) rfl ?_
  refine S_aload_n (pc := 0) dX8_kind_0 rfl ?_
  refine S_getI (pc := 1) dX8_kind_1 fX8_15 (by assumption) rfl ?_
  rw [e0]
  refine G_iret (pc := 4) dX8_kind_4 rfl (by decide) ?_
  exact hq
set_option maxRecDepth 100000 in
set_option maxHeartbeats 4000000 in
theorem c_X8_cut {g : GC} {sh : SH} {S : SS} {n w : Nat} {kd cut : Int} {X : Int → Int} {Q : Option Value → GA → Nat → Prop} (hW : WyW sh S w kd cut X) (hq : Q (some (.int (iI cut))) (hp g sh S) n) : GCall g mX8_cut 1 0 0 [gr g w] (hp g sh S) n Q := by
  obtain ⟨h8, ha, q2, e0, e1, eX⟩ := hW
  refine GCall.of (by decide) (Nat.le_of_ble_eq_true rfl) (ls := [(0, _)]) rfl ?_
  refine S_aload_n (pc := 0) dX8_cut_0 rfl ?_
  refine S_getI (pc := 1) dX8_cut_1 fX8_19 (by assumption) rfl ?_
  rw [e1]
  refine G_iret (pc := 4) dX8_cut_4 rfl (by decide) ?_
  exact hq
def abv (a : Int) : Int := if a < 0 then -1 else ovr a
set_option maxRecDepth 100000 in
set_option maxHeartbeats 4000000 in
theorem c_X8_above {g : GC} {h : GA} {n : Nat} {a : Int} {Q : Option Value → GA → Nat → Prop} (ha : -1 ≤ a ∧ a ≤ 5) (hq : Q (some (.int (iI (abv a)))) h n) : GCall g mX8_above 1 0 0 [.int (iI a)] h n Q := by
  refine GCall.of (by decide) (Nat.le_of_ble_eq_true rfl) (ls := [(0, _)]) rfl ?_
  have hc : a = 1 ∨ a = 2 ∨ a = 3 ∨ a = 4 ∨ a = 5 ∨ (a = -1 ∨ a = 0) := by omega
  rcases hc with e | e | e | e | e | e
  · subst e
    refine G_iload_n (pc := 0) dX8_above_0 rfl ?_
    refine G_tin (pc := 1) 0 36 dX8_above_1 (by omega) (by omega) (by omega) rfl (by decide) ?_
    · skip
      skip
      refine G_iconst (pc := 36) dX8_above_36 ?_
      refine G_iret (pc := 37) dX8_above_37 rfl (by decide) ?_
      exact hq
  · subst e
    refine G_iload_n (pc := 0) dX8_above_0 rfl ?_
    refine G_tin (pc := 1) 1 38 dX8_above_1 (by omega) (by omega) (by omega) rfl (by decide) ?_
    · skip
      skip
      refine G_iconst (pc := 38) dX8_above_38 ?_
      refine G_iret (pc := 39) dX8_above_39 rfl (by decide) ?_
      exact hq
  · subst e
    refine G_iload_n (pc := 0) dX8_above_0 rfl ?_
    refine G_tin (pc := 1) 2 40 dX8_above_1 (by omega) (by omega) (by omega) rfl (by decide) ?_
    · skip
      skip
      refine G_iconst (pc := 40) dX8_above_40 ?_
      refine G_iret (pc := 41) dX8_above_41 rfl (by decide) ?_
      exact hq
  · subst e
    refine G_iload_n (pc := 0) dX8_above_0 rfl ?_
    refine G_tin (pc := 1) 3 42 dX8_above_1 (by omega) (by omega) (by omega) rfl (by decide) ?_
    · skip
      skip
      refine G_iconst (pc := 42) dX8_above_42 ?_
      refine G_iret (pc := 43) dX8_above_43 rfl (by decide) ?_
      exact hq
  · subst e
    refine G_iload_n (pc := 0) dX8_above_0 rfl ?_
    refine G_tin (pc := 1) 4 44 dX8_above_1 (by omega) (by omega) (by omega) rfl (by decide) ?_
    · skip
      skip
      refine G_iconst (pc := 44) dX8_above_44 ?_
      refine G_iret (pc := 45) dX8_above_45 rfl (by decide) ?_
      exact hq
  · have eq : abv a = -1 := by
      rcases e with e | e <;> rw [e] <;> rfl
    rw [eq] at hq
    refine G_iload_n (pc := 0) dX8_above_0 rfl ?_
    refine G_tout (pc := 1) 46 dX8_above_1 (by omega) (by omega) (by decide) ?_
    · skip
      skip
      refine G_iconst (pc := 46) dX8_above_46 ?_
      refine G_iret (pc := 47) dX8_above_47 rfl (by decide) ?_
      exact hq
set_option maxRecDepth 100000 in
set_option maxHeartbeats 4000000 in
theorem l_X8_isUnder {g : GC} {sh : SH} {S : SS} {n w : Nat} {ot : Int} {Q : Option Value → GA → Nat → Prop} (hot : 0 ≤ ot ∧ ot ≤ 5) : ∀ (m : Nat) (a : Int), m ≤ 6 → (-1 ≤ a ∧ a ≤ 5) → a < m → (utk m a ot → Q (some (.int (iI 1))) (hp g sh S) n) → (¬ utk m a ot → Q (some (.int (iI 0))) (hp g sh S) n) → G g mX8_isUnder 2 0 0 7 [(3, .int (iI (6 - m))), (2, .int (iI a)), (0, gr g w), (1, .int (iI ot))] [] (hp g sh S) n 0 0 Q := by
  intro m
  induction m with
  | zero =>
    intro a hm ha hlt h1 h0
    have hn := h0 (fun z => z)
    refine G_iload_n (pc := 7) dX8_isUnder_7 rfl ?_
    refine G_bipush (pc := 8) dX8_isUnder_8 rfl ?_
    refine G_icmp_ge_t (pc := 10) 29 dX8_isUnder_10 rfl (by omega) (by omega) ?_
    refine G_iload_n (pc := 29) dX8_isUnder_29 rfl ?_
    refine G_iload_n (pc := 30) dX8_isUnder_30 rfl ?_
    refine G_icmp_ne_t (pc := 31) 38 dX8_isUnder_31 rfl (by omega) (by omega) ?_
    refine G_iconst (pc := 38) dX8_isUnder_38 ?_
    refine G_zret (pc := 39) dX8_isUnder_39 rfl nar_z0 (by decide) ?_
    exact hn
  | succ m ih =>
    intro a hm ha hlt h1 h0
    by_cases c : a = ot
    · have hn := h1 ⟨by omega, Or.inl c⟩
      refine G_iload_n (pc := 7) dX8_isUnder_7 rfl ?_
      refine G_bipush (pc := 8) dX8_isUnder_8 rfl ?_
      refine G_icmp_ge_f (pc := 10) 29 dX8_isUnder_10 rfl (by omega) (by omega) ?_
      refine G_iload_n (pc := 13) dX8_isUnder_13 rfl ?_
      refine G_iload_n (pc := 14) dX8_isUnder_14 rfl ?_
      refine G_icmp_eq_t (pc := 15) 29 dX8_isUnder_15 rfl (by omega) (by omega) ?_
      refine G_iload_n (pc := 29) dX8_isUnder_29 rfl ?_
      refine G_iload_n (pc := 30) dX8_isUnder_30 rfl ?_
      refine G_icmp_ne_f (pc := 31) 38 dX8_isUnder_31 rfl (by omega) (by omega) ?_
      refine G_iconst (pc := 34) dX8_isUnder_34 ?_
      refine G_goto (pc := 35) 39 dX8_isUnder_35 rfl ?_
      refine G_zret (pc := 39) dX8_isUnder_39 rfl nar_z1 (by decide) ?_
      exact hn
    · have hb : -1 ≤ abv a ∧ abv a ≤ 5 ∧ abv a < m := by
        unfold abv
        by_cases z : a < 0
        · rw [if_pos z]; omega
        · rw [if_neg z]
          have := ovr_bd (a := a) (by omega)
          omega
      have hne : ¬ utk m (-1) ot := fun z => by
        cases m with
        | zero => exact z
        | succ m => have := z.1; omega
      have hn := ih (abv a) (by omega) (by omega) hb.2.2 (fun z => h1 (by
        unfold abv at z
        by_cases q : a < 0
        · rw [if_pos q] at z; exact absurd z hne
        · rw [if_neg q] at z
          exact ⟨by omega, Or.inr z⟩)) (fun z => h0 (fun y => z (by
        unfold abv
        rw [if_neg (by have := y.1; omega)]
        exact y.2.elim (fun q => absurd q c) (fun q => q))))
      rw [show (6 : Int) - (m : Int) = 6 - ((m + 1 : Nat) : Int) + 1 by omega] at hn
      refine G_iload_n (pc := 7) dX8_isUnder_7 rfl ?_
      refine G_bipush (pc := 8) dX8_isUnder_8 rfl ?_
      refine G_icmp_ge_f (pc := 10) 29 dX8_isUnder_10 rfl (by omega) (by omega) ?_
      refine G_iload_n (pc := 13) dX8_isUnder_13 rfl ?_
      refine G_iload_n (pc := 14) dX8_isUnder_14 rfl ?_
      refine G_icmp_eq_f (pc := 15) 29 dX8_isUnder_15 rfl (by omega) (by omega) ?_
      refine G_iload_n (pc := 18) dX8_isUnder_18 rfl ?_
      refine G_callS (pc := 19) (d2 := 1) (mc2 := 0) (ms2 := 0) (As := [_]) dX8_isUnder_19 kX8_above lkX8_26 rfl rfl (Nat.le_of_ble_eq_true rfl) ⟨by decide, by decide⟩ (by decide) ?_
      refine c_X8_above ha ?_
      show G _ _ _ _ _ _ _ _ _ _ _ _ _
      refine G_istore_n (pc := 22) (ls' := [(2, _), (3, _), (0, _), (1, _)]) dX8_isUnder_22 (by decide) rfl ?_
      refine G_iinc (pc := 23) (ls' := [(3, _), (2, _), (0, _), (1, _)]) dX8_isUnder_23 rfl (by decide) rfl ?_
      refine G_goto (pc := 26) 7 dX8_isUnder_26 rfl ?_
      exact hn
set_option maxRecDepth 100000 in
set_option maxHeartbeats 4000000 in
theorem c_X8_isUnder {g : GC} {sh : SH} {S : SS} {n w : Nat} {kd cut ot : Int} {X : Int → Int} {Q : Option Value → GA → Nat → Prop} (hW : WyW sh S w kd cut X) (hk : 0 ≤ kd ∧ kd ≤ 5) (hot : 0 ≤ ot ∧ ot ≤ 5) (h1 : utk 6 kd ot → Q (some (.int (iI 1))) (hp g sh S) n) (h0 : ¬ utk 6 kd ot → Q (some (.int (iI 0))) (hp g sh S) n) : GCall g mX8_isUnder 2 0 0 [gr g w, .int (iI ot)] (hp g sh S) n Q := by
  obtain ⟨h8, ha, q2, e0, e1, eX⟩ := hW
  refine GCall.of (by decide) (Nat.le_of_ble_eq_true rfl) (ls := [(0, _), (1, _)]) rfl ?_
  refine S_aload_n (pc := 0) dX8_isUnder_0 rfl ?_
  refine S_getI (pc := 1) dX8_isUnder_1 fX8_15 (by assumption) rfl ?_
  rw [e0]
  refine G_istore_n (pc := 4) (ls' := [(2, _), (0, _), (1, _)]) dX8_isUnder_4 (by decide) rfl ?_
  refine G_iconst (pc := 5) dX8_isUnder_5 ?_
  refine G_istore_n (pc := 6) (ls' := [(3, _), (2, _), (0, _), (1, _)]) dX8_isUnder_6 (by decide) rfl ?_
  exact l_X8_isUnder hot 6 kd (by decide) (by omega) (by omega) h1 h0
theorem utk1 {kd : Int} (hk : 0 ≤ kd ∧ kd ≤ 5) : utk 6 kd 1 ↔ (kd = 1 ∨ kd = 2 ∨ kd = 4) := by
  have hc : kd = 0 ∨ kd = 1 ∨ kd = 2 ∨ kd = 3 ∨ kd = 4 ∨ kd = 5 := by omega
  have o0 : ovr 0 = -1 := rfl
  have o1 : ovr 1 = 0 := rfl
  have o2 : ovr 2 = 1 := rfl
  have o3 : ovr 3 = 0 := rfl
  have o4 : ovr 4 = 2 := rfl
  have o5 : ovr 5 = 3 := rfl
  rcases hc with e | e | e | e | e | e <;> subst e <;> simp [utk, o0, o1, o2, o3, o4, o5]
set_option maxRecDepth 100000 in
set_option maxHeartbeats 4000000 in
theorem c_X8_part {g : GC} {sh : SH} {S : SS} {n w : Nat} {kd cut : Int} {X : Int → Int} {Q : Option Value → GA → Nat → Prop} (hW : WyW sh S w kd cut X) (hk : 0 ≤ kd ∧ kd ≤ 5) (hq : Q (some (.int (iI (wprt kd)))) (hp g sh S) n) : GCall g mX8_part 3 0 0 [gr g w] (hp g sh S) n Q := by
  have hW' := hW
  obtain ⟨h8, ha, q2, e0, e1, eX⟩ := hW'
  unfold wprt at hq
  refine GCall.of (by decide) (Nat.le_of_ble_eq_true rfl) (ls := [(0, _)]) rfl ?_
  refine S_aload_n (pc := 0) dX8_part_0 rfl ?_
  refine S_getI (pc := 1) dX8_part_1 fX8_15 (by assumption) rfl ?_
  rw [e0]
  refine G_if_ne (pc := 4) 9 dX8_part_4 rfl (by omega) (fun c4 => ?_) (fun c4 => ?_)
  · skip
    refine S_aload_n (pc := 9) dX8_part_9 rfl ?_
    refine G_iconst (pc := 10) dX8_part_10 ?_
    refine S_callV (pc := 11) (ci := 8) (d2 := 2) (mc2 := 0) (ms2 := 0) (As := [_]) dX8_part_11 kX8_isUnder lkX8_31 (by assumption) rfl rfl rfl (Nat.le_of_ble_eq_true rfl) ⟨by decide, by decide⟩ (by decide) ?_
    refine c_X8_isUnder hW hk (by omega) (fun z => ?_) (fun z => ?_)
    · show G _ _ _ _ _ _ _ _ _ _ _ _ _
      rw [utk1 hk] at z
      refine G_if_eq_f (pc := 14) 21 dX8_part_14 rfl (by decide) (by decide) ?_
      refine G_iconst (pc := 17) dX8_part_17 ?_
      refine G_goto (pc := 18) 22 dX8_part_18 rfl ?_
      refine G_iret (pc := 22) dX8_part_22 rfl (by decide) ?_
      first
        | (rw [if_pos (by omega)] at hq; exact hq)
        | (rw [if_neg (by omega), if_pos (by omega)] at hq; exact hq)
        | (rw [if_neg (by omega), if_neg (by omega)] at hq; exact hq)
    · show G _ _ _ _ _ _ _ _ _ _ _ _ _
      rw [utk1 hk] at z
      refine G_if_eq_t (pc := 14) 21 dX8_part_14 rfl (by decide) (by decide) ?_
      refine G_iconst (pc := 21) dX8_part_21 ?_
      refine G_iret (pc := 22) dX8_part_22 rfl (by decide) ?_
      first
        | (rw [if_pos (by omega)] at hq; exact hq)
        | (rw [if_neg (by omega), if_pos (by omega)] at hq; exact hq)
        | (rw [if_neg (by omega), if_neg (by omega)] at hq; exact hq)
  · skip
    refine G_iconst (pc := 7) dX8_part_7 ?_
    refine G_iret (pc := 8) dX8_part_8 rfl (by decide) ?_
    first
      | (rw [if_pos (by omega)] at hq; exact hq)
      | (rw [if_neg (by omega), if_pos (by omega)] at hq; exact hq)
      | (rw [if_neg (by omega), if_neg (by omega)] at hq; exact hq)
set_option maxRecDepth 100000 in
set_option maxHeartbeats 4000000 in
theorem c_X8_countOfSize {g : GC} {sh : SH} {S : SS} {n w : Nat} {kd cut s : Int} {X : Int → Int} {Q : Option Value → GA → Nat → Prop} (hW : WyW sh S w kd cut X) (hs : 0 ≤ s ∧ s ≤ 32) (hq : Q (some (.int (iI (X s)))) (hp g sh S) n) : GCall g mX8_countOfSize 2 0 0 [gr g w, .int (iI s)] (hp g sh S) n Q := by
  obtain ⟨h8, ha, q2, e0, e1, eX⟩ := hW
  refine GCall.of (by decide) (Nat.le_of_ble_eq_true rfl) (ls := [(0, _), (1, _)]) rfl ?_
  refine G_iload_n (pc := 0) dX8_countOfSize_0 rfl ?_
  refine S_aload_n (pc := 1) dX8_countOfSize_1 rfl ?_
  refine S_getR (pc := 2) dX8_countOfSize_2 fX8_9 (by assumption) rfl (by assumption) ?_
  refine S_alen (pc := 5) dX8_countOfSize_5 (Or.inl (by assumption)) ?_
  refine G_callSN (pc := 6) (d2 := 1) (mc2 := 0) (ms2 := 0) (As := [_, _]) dX8_countOfSize_6 kX9_isWithin lkX8_47 rfl rfl (Nat.le_of_ble_eq_true rfl) ⟨by decide, by decide⟩ (by decide) ?_
  refine c_X9_isWithin (by omega) (fun _ => ?_) (fun z => absurd (by omega) z)
  · show G _ _ _ _ _ _ _ _ _ _ _ _ _
    refine G_if_eq_f (pc := 9) 21 dX8_countOfSize_9 rfl (by decide) (by decide) ?_
    refine S_aload_n (pc := 12) dX8_countOfSize_12 rfl ?_
    refine S_getR (pc := 13) dX8_countOfSize_13 fX8_9 (by assumption) rfl (by assumption) ?_
    refine G_iload_n (pc := 16) dX8_countOfSize_16 rfl ?_
    refine S_iald (pc := 17) dX8_countOfSize_17 (by assumption) (by omega) ?_
    rw [eX]
    refine G_goto (pc := 18) 22 dX8_countOfSize_18 rfl ?_
    refine G_iret (pc := 22) dX8_countOfSize_22 rfl (by decide) ?_
    exact hq
set_option maxRecDepth 100000 in
set_option maxHeartbeats 4000000 in
theorem c_X8_parted {g : GC} {sh : SH} {S : SS} {n w : Nat} {kd cut s : Int} {X : Int → Int} {Q : Option Value → GA → Nat → Prop} (hW : WyW sh S w kd cut X) (hk : 0 ≤ kd ∧ kd ≤ 5) (hc : 1 ≤ cut ∧ cut ≤ 16) (hs : 1 ≤ s ∧ s ≤ 32) (hq : Q (some (.int (iI (wpt kd cut X s)))) (hp g sh S) n) : GCall g mX8_parted 3 0 0 [gr g w, .int (iI s)] (hp g sh S) n Q := by
  have hW' := hW
  obtain ⟨h8, ha, q2, e0, e1, eX⟩ := hW'
  unfold wpt at hq
  refine GCall.of (by decide) (Nat.le_of_ble_eq_true rfl) (ls := [(0, _), (1, _)]) rfl ?_
  have K45 : ∀ hv : Int, (hv = 1 ∧ (kd = 1 ∨ (kd = 4 ∧ s ≤ 3 * cut))) ∨ (hv = 0 ∧ ¬ (kd = 1 ∨ (kd = 4 ∧ s ≤ 3 * cut))) → G g mX8_parted 3 0 0 45 [(4, .int (iI hv)), (3, .int (iI ((s + 2) / 3))), (2, .int (iI ((s + 1) / 2))), (0, gr g w), (1, .int (iI s))] [] (hp g sh S) n 0 0 Q := by
    intro hv hor
    refine G_iload_n (pc := 45) dX8_parted_45 rfl ?_
    refine S_aload_n (pc := 46) dX8_parted_46 rfl ?_
    refine S_getI (pc := 47) dX8_parted_47 fX8_19 (by assumption) rfl ?_
    rw [e1]
    refine G_icmp_le (pc := 50) 66 dX8_parted_50 rfl (by omega) (fun c50 => ?_) (fun c50 => ?_)
    · skip
      refine G_iload_n (pc := 66) dX8_parted_66 rfl ?_
      refine G_iload_n (pc := 67) dX8_parted_67 rfl ?_
      refine G_imul (pc := 68) dX8_parted_68 ?_
      refine G_iret (pc := 69) dX8_parted_69 rfl (by decide) ?_
      first
        | (rw [if_pos (by omega)] at hq; exact hq)
        | (rw [if_neg (by omega), if_pos (by omega)] at hq; exact hq)
        | (rw [if_neg (by omega), if_neg (by omega)] at hq; exact hq)
    · skip
      refine S_aload_n (pc := 53) dX8_parted_53 rfl ?_
      refine S_getI (pc := 54) dX8_parted_54 fX8_15 (by assumption) rfl ?_
      rw [e0]
      refine G_iconst (pc := 57) dX8_parted_57 ?_
      refine G_icmp_ne (pc := 58) 70 dX8_parted_58 rfl (by omega) (fun c58 => ?_) (fun c58 => ?_)
      · skip
        refine G_iload (pc := 70) dX8_parted_70 rfl ?_
        refine G_if_eq (pc := 72) 93 dX8_parted_72 rfl (by omega) (fun c72 => ?_) (fun c72 => ?_)
        · skip
          refine G_iconst (pc := 93) dX8_parted_93 ?_
          refine S_aload_n (pc := 94) dX8_parted_94 rfl ?_
          refine G_iload_n (pc := 95) dX8_parted_95 rfl ?_
          refine S_callV (pc := 96) (ci := 8) (d2 := 2) (mc2 := 0) (ms2 := 0) (As := [_]) dX8_parted_96 kX8_countOfSize lkX8_44 (by assumption) rfl rfl rfl (Nat.le_of_ble_eq_true rfl) ⟨by decide, by decide⟩ (by decide) ?_
          refine c_X8_countOfSize hW (by omega) ?_
          show G _ _ _ _ _ _ _ _ _ _ _ _ _
          refine G_imul (pc := 99) dX8_parted_99 ?_
          refine G_iret (pc := 100) dX8_parted_100 rfl (by decide) ?_
          first
            | (rw [if_pos (by omega)] at hq; exact hq)
            | (rw [if_neg (by omega), if_pos (by omega)] at hq; exact hq)
            | (rw [if_neg (by omega), if_neg (by omega)] at hq; exact hq)
        · skip
          refine G_iconst (pc := 75) dX8_parted_75 ?_
          refine S_aload_n (pc := 76) dX8_parted_76 rfl ?_
          refine G_iload_n (pc := 77) dX8_parted_77 rfl ?_
          refine S_callV (pc := 78) (ci := 8) (d2 := 2) (mc2 := 0) (ms2 := 0) (As := [_]) dX8_parted_78 kX8_countOfSize lkX8_44 (by assumption) rfl rfl rfl (Nat.le_of_ble_eq_true rfl) ⟨by decide, by decide⟩ (by decide) ?_
          refine c_X8_countOfSize hW (by omega) ?_
          show G _ _ _ _ _ _ _ _ _ _ _ _ _
          refine G_imul (pc := 81) dX8_parted_81 ?_
          refine S_aload_n (pc := 82) dX8_parted_82 rfl ?_
          refine G_iload_n (pc := 83) dX8_parted_83 rfl ?_
          refine G_iload_n (pc := 84) dX8_parted_84 rfl ?_
          refine G_isub (pc := 85) dX8_parted_85 ?_
          refine S_callV (pc := 86) (ci := 8) (d2 := 2) (mc2 := 0) (ms2 := 0) (As := [_]) dX8_parted_86 kX8_countOfSize lkX8_44 (by assumption) rfl rfl rfl (Nat.le_of_ble_eq_true rfl) ⟨by decide, by decide⟩ (by decide) ?_
          refine c_X8_countOfSize hW (by omega) ?_
          show G _ _ _ _ _ _ _ _ _ _ _ _ _
          refine G_iadd (pc := 89) dX8_parted_89 ?_
          refine G_goto (pc := 90) 100 dX8_parted_90 rfl ?_
          refine G_iret (pc := 100) dX8_parted_100 rfl (by decide) ?_
          first
            | (rw [if_pos (by omega)] at hq; exact hq)
            | (rw [if_neg (by omega), if_pos (by omega)] at hq; exact hq)
            | (rw [if_neg (by omega), if_neg (by omega)] at hq; exact hq)
      · skip
        refine G_iload_n (pc := 61) dX8_parted_61 rfl ?_
        refine G_iconst (pc := 62) dX8_parted_62 ?_
        refine G_icmp_gt (pc := 63) 70 dX8_parted_63 rfl (by omega) (fun c63 => ?_) (fun c63 => ?_)
        · skip
          refine G_iload (pc := 70) dX8_parted_70 rfl ?_
          refine G_if_eq (pc := 72) 93 dX8_parted_72 rfl (by omega) (fun c72 => ?_) (fun c72 => ?_)
          · skip
            refine G_iconst (pc := 93) dX8_parted_93 ?_
            refine S_aload_n (pc := 94) dX8_parted_94 rfl ?_
            refine G_iload_n (pc := 95) dX8_parted_95 rfl ?_
            refine S_callV (pc := 96) (ci := 8) (d2 := 2) (mc2 := 0) (ms2 := 0) (As := [_]) dX8_parted_96 kX8_countOfSize lkX8_44 (by assumption) rfl rfl rfl (Nat.le_of_ble_eq_true rfl) ⟨by decide, by decide⟩ (by decide) ?_
            refine c_X8_countOfSize hW (by omega) ?_
            show G _ _ _ _ _ _ _ _ _ _ _ _ _
            refine G_imul (pc := 99) dX8_parted_99 ?_
            refine G_iret (pc := 100) dX8_parted_100 rfl (by decide) ?_
            first
              | (rw [if_pos (by omega)] at hq; exact hq)
              | (rw [if_neg (by omega), if_pos (by omega)] at hq; exact hq)
              | (rw [if_neg (by omega), if_neg (by omega)] at hq; exact hq)
          · skip
            refine G_iconst (pc := 75) dX8_parted_75 ?_
            refine S_aload_n (pc := 76) dX8_parted_76 rfl ?_
            refine G_iload_n (pc := 77) dX8_parted_77 rfl ?_
            refine S_callV (pc := 78) (ci := 8) (d2 := 2) (mc2 := 0) (ms2 := 0) (As := [_]) dX8_parted_78 kX8_countOfSize lkX8_44 (by assumption) rfl rfl rfl (Nat.le_of_ble_eq_true rfl) ⟨by decide, by decide⟩ (by decide) ?_
            refine c_X8_countOfSize hW (by omega) ?_
            show G _ _ _ _ _ _ _ _ _ _ _ _ _
            refine G_imul (pc := 81) dX8_parted_81 ?_
            refine S_aload_n (pc := 82) dX8_parted_82 rfl ?_
            refine G_iload_n (pc := 83) dX8_parted_83 rfl ?_
            refine G_iload_n (pc := 84) dX8_parted_84 rfl ?_
            refine G_isub (pc := 85) dX8_parted_85 ?_
            refine S_callV (pc := 86) (ci := 8) (d2 := 2) (mc2 := 0) (ms2 := 0) (As := [_]) dX8_parted_86 kX8_countOfSize lkX8_44 (by assumption) rfl rfl rfl (Nat.le_of_ble_eq_true rfl) ⟨by decide, by decide⟩ (by decide) ?_
            refine c_X8_countOfSize hW (by omega) ?_
            show G _ _ _ _ _ _ _ _ _ _ _ _ _
            refine G_iadd (pc := 89) dX8_parted_89 ?_
            refine G_goto (pc := 90) 100 dX8_parted_90 rfl ?_
            refine G_iret (pc := 100) dX8_parted_100 rfl (by decide) ?_
            first
              | (rw [if_pos (by omega)] at hq; exact hq)
              | (rw [if_neg (by omega), if_pos (by omega)] at hq; exact hq)
              | (rw [if_neg (by omega), if_neg (by omega)] at hq; exact hq)
        · skip
          refine G_iload_n (pc := 66) dX8_parted_66 rfl ?_
          refine G_iload_n (pc := 67) dX8_parted_67 rfl ?_
          refine G_imul (pc := 68) dX8_parted_68 ?_
          refine G_iret (pc := 69) dX8_parted_69 rfl (by decide) ?_
          first
            | (rw [if_pos (by omega)] at hq; exact hq)
            | (rw [if_neg (by omega), if_pos (by omega)] at hq; exact hq)
            | (rw [if_neg (by omega), if_neg (by omega)] at hq; exact hq)
  refine G_iload_n (pc := 0) dX8_parted_0 rfl ?_
  refine G_iconst (pc := 1) dX8_parted_1 ?_
  refine G_iadd (pc := 2) dX8_parted_2 ?_
  refine G_iconst (pc := 3) dX8_parted_3 ?_
  refine G_idivP (pc := 4) dX8_parted_4 (by omega) ?_
  refine G_istore_n (pc := 5) (ls' := [(2, _), (0, _), (1, _)]) dX8_parted_5 (by decide) rfl ?_
  refine G_iload_n (pc := 6) dX8_parted_6 rfl ?_
  refine G_iconst (pc := 7) dX8_parted_7 ?_
  refine G_iadd (pc := 8) dX8_parted_8 ?_
  refine G_iconst (pc := 9) dX8_parted_9 ?_
  refine G_idivP (pc := 10) dX8_parted_10 (by omega) ?_
  refine G_istore_n (pc := 11) (ls' := [(3, _), (2, _), (0, _), (1, _)]) dX8_parted_11 (by decide) rfl ?_
  refine S_aload_n (pc := 12) dX8_parted_12 rfl ?_
  refine S_getI (pc := 13) dX8_parted_13 fX8_15 (by assumption) rfl ?_
  rw [e0]
  refine G_iconst (pc := 16) dX8_parted_16 ?_
  refine G_icmp_eq (pc := 17) 38 dX8_parted_17 rfl (by omega) (fun c17 => ?_) (fun c17 => ?_)
  · skip
    refine G_iconst (pc := 38) dX8_parted_38 ?_
    refine G_goto (pc := 39) 43 dX8_parted_39 rfl ?_
    refine G_istore (pc := 43) (ls' := [(4, _), (3, _), (2, _), (0, _), (1, _)]) dX8_parted_43 (by decide) rfl ?_
    exact K45 _ (by omega)
  · skip
    refine S_aload_n (pc := 20) dX8_parted_20 rfl ?_
    refine S_getI (pc := 21) dX8_parted_21 fX8_15 (by assumption) rfl ?_
    rw [e0]
    refine G_iconst (pc := 24) dX8_parted_24 ?_
    refine G_icmp_ne (pc := 25) 42 dX8_parted_25 rfl (by omega) (fun c25 => ?_) (fun c25 => ?_)
    · skip
      refine G_iconst (pc := 42) dX8_parted_42 ?_
      refine G_istore (pc := 43) (ls' := [(4, _), (3, _), (2, _), (0, _), (1, _)]) dX8_parted_43 (by decide) rfl ?_
      exact K45 _ (by omega)
    · skip
      refine G_iload_n (pc := 28) dX8_parted_28 rfl ?_
      refine G_iconst (pc := 29) dX8_parted_29 ?_
      refine S_aload_n (pc := 30) dX8_parted_30 rfl ?_
      refine S_getI (pc := 31) dX8_parted_31 fX8_19 (by assumption) rfl ?_
      rw [e1]
      refine G_imul (pc := 34) dX8_parted_34 ?_
      refine G_icmp_gt (pc := 35) 42 dX8_parted_35 rfl (by omega) (fun c35 => ?_) (fun c35 => ?_)
      · skip
        refine G_iconst (pc := 42) dX8_parted_42 ?_
        refine G_istore (pc := 43) (ls' := [(4, _), (3, _), (2, _), (0, _), (1, _)]) dX8_parted_43 (by decide) rfl ?_
        exact K45 _ (by omega)
      · skip
        refine G_iconst (pc := 38) dX8_parted_38 ?_
        refine G_goto (pc := 39) 43 dX8_parted_39 rfl ?_
        refine G_istore (pc := 43) (ls' := [(4, _), (3, _), (2, _), (0, _), (1, _)]) dX8_parted_43 (by decide) rfl ?_
        exact K45 _ (by omega)
set_option maxRecDepth 100000 in
set_option maxHeartbeats 4000000 in
theorem l_X8_turned {g : GC} {h : GA} {n : Nat} {v tw : Int} {Q : Option Value → GA → Nat → Prop} (hv : 1 ≤ v ∧ v ≤ 64) (ht : tw = 2 ∨ tw = 3) (hq : Q (some (.int (iI (if 5 < pwk v then -4 else tw * pwk v * 2 ^ (pwk v).toNat / 2 + 2 ^ (pwk v).toNat)))) h n) : ∀ (f : Nat) (k : Int), k + f = pwk v → 0 ≤ k → G g mX8_turned 1 0 0 4 [(3, .int (iI k)), (2, .int (iI (2 ^ k.toNat))), (0, .int (iI v)), (1, .int (iI tw))] [] h n 0 0 Q := by
  intro f
  have hb := pwk_bd (n := v)
  induction f with
  | zero =>
    intro k hk h0
    have h1 := (pwk_le hv (k := k) (by omega)).1 (by omega)
    have hp := pw6 (k := k) (by omega)
    have e : k = pwk v := by omega
    by_cases c : 5 < pwk v
    · have hk6 : k = 6 := by omega
      have e64 : (2 : Int) ^ k.toNat = 64 := by rw [hk6]; decide
      rw [if_pos c] at hq
      refine G_iload_n (pc := 4) dX8_turned_4 rfl ?_
      refine G_iload_n (pc := 5) dX8_turned_5 rfl ?_
      refine G_icmp_ge_t (pc := 6) 25 dX8_turned_6 rfl (by omega) (by omega) ?_
      refine G_iload_n (pc := 25) dX8_turned_25 rfl ?_
      refine G_bipush (pc := 26) dX8_turned_26 rfl ?_
      refine G_icmp_le_f (pc := 28) 36 dX8_turned_28 rfl (by omega) (by omega) ?_
      refine G_bipush (pc := 31) dX8_turned_31 rfl ?_
      refine G_goto (pc := 33) 45 dX8_turned_33 rfl ?_
      refine G_iret (pc := 45) dX8_turned_45 rfl (by decide) ?_
      exact hq
    · have hT := ctT_bd (tw := tw) (k := k) ht (by omega)
      have h32 : (2 : Int) ^ k.toNat ≤ 32 := by
        have hk5 : k = 0 ∨ k = 1 ∨ k = 2 ∨ k = 3 ∨ k = 4 ∨ k = 5 := by omega
        rcases hk5 with e | e | e | e | e | e <;> rw [e] <;> decide
      rw [if_neg c, ← e] at hq
      refine G_iload_n (pc := 4) dX8_turned_4 rfl ?_
      refine G_iload_n (pc := 5) dX8_turned_5 rfl ?_
      refine G_icmp_ge_t (pc := 6) 25 dX8_turned_6 rfl (by omega) (by omega) ?_
      refine G_iload_n (pc := 25) dX8_turned_25 rfl ?_
      refine G_bipush (pc := 26) dX8_turned_26 rfl ?_
      refine G_icmp_le_t (pc := 28) 36 dX8_turned_28 rfl (by omega) (by omega) ?_
      refine G_iload_n (pc := 36) dX8_turned_36 rfl ?_
      refine G_iload_n (pc := 37) dX8_turned_37 rfl ?_
      refine G_imul (pc := 38) dX8_turned_38 ?_
      refine G_iload_n (pc := 39) dX8_turned_39 rfl ?_
      refine G_imul (pc := 40) dX8_turned_40 ?_
      refine G_iconst (pc := 41) dX8_turned_41 ?_
      refine G_idivP (pc := 42) dX8_turned_42 (by omega) ?_
      refine G_iload_n (pc := 43) dX8_turned_43 rfl ?_
      refine G_iadd (pc := 44) dX8_turned_44 ?_
      refine G_iret (pc := 45) dX8_turned_45 rfl (by decide) ?_
      exact hq
  | succ f ih =>
    intro k hk h0
    have h1 := (pwk_le hv (k := k) (by omega)).2 (by omega)
    have hp := pw6 (k := k) (by omega)
    have h32 : (2 : Int) ^ k.toNat ≤ 32 := by
      have hk5 : k = 0 ∨ k = 1 ∨ k = 2 ∨ k = 3 ∨ k = 4 ∨ k = 5 := by omega
      rcases hk5 with e | e | e | e | e | e <;> rw [e] <;> decide
    have hn := ih (k + 1) (by omega) (by omega)
    rw [show (k + 1).toNat = k.toNat + 1 by omega, Int.pow_succ] at hn
    refine G_iload_n (pc := 4) dX8_turned_4 rfl ?_
    refine G_iload_n (pc := 5) dX8_turned_5 rfl ?_
    refine G_icmp_ge_f (pc := 6) 25 dX8_turned_6 rfl (by omega) (by omega) ?_
    refine G_iload_n (pc := 9) dX8_turned_9 rfl ?_
    refine G_bipush (pc := 10) dX8_turned_10 rfl ?_
    refine G_icmp_gt_f (pc := 12) 25 dX8_turned_12 rfl (by omega) (by omega) ?_
    refine G_iload_n (pc := 15) dX8_turned_15 rfl ?_
    refine G_iconst (pc := 16) dX8_turned_16 ?_
    refine G_imul (pc := 17) dX8_turned_17 ?_
    refine G_istore_n (pc := 18) (ls' := [(2, _), (3, _), (0, _), (1, _)]) dX8_turned_18 (by decide) rfl ?_
    refine G_iinc (pc := 19) (ls' := [(3, _), (2, _), (0, _), (1, _)]) dX8_turned_19 rfl (by decide) rfl ?_
    refine G_goto (pc := 22) 4 dX8_turned_22 rfl ?_
    exact hn
set_option maxRecDepth 100000 in
set_option maxHeartbeats 4000000 in
theorem c_X8_turned {g : GC} {h : GA} {n : Nat} {v tw : Int} {Q : Option Value → GA → Nat → Prop} (hv : 1 ≤ v ∧ v ≤ 64) (ht : tw = 2 ∨ tw = 3) (hq : Q (some (.int (iI (if 5 < pwk v then -4 else tw * pwk v * 2 ^ (pwk v).toNat / 2 + 2 ^ (pwk v).toNat)))) h n) : GCall g mX8_turned 1 0 0 [.int (iI v), .int (iI tw)] h n Q := by
  have hb := pwk_bd (n := v)
  refine GCall.of (by decide) (Nat.le_of_ble_eq_true rfl) (ls := [(0, _), (1, _)]) rfl ?_
  refine G_iconst (pc := 0) dX8_turned_0 ?_
  refine G_istore_n (pc := 1) (ls' := [(2, _), (0, _), (1, _)]) dX8_turned_1 (by decide) rfl ?_
  refine G_iconst (pc := 2) dX8_turned_2 ?_
  refine G_istore_n (pc := 3) (ls' := [(3, _), (2, _), (0, _), (1, _)]) dX8_turned_3 (by decide) rfl ?_
  exact l_X8_turned hv ht hq (pwk v).toNat 0 (by omega) (Int.le_refl _)
set_option maxRecDepth 100000 in
set_option maxHeartbeats 4000000 in
theorem c_X8_countOf {g : GC} {sh : SH} {S : SS} {n w : Nat} {kd cut a b sm : Int} {Q : Option Value → GA → Nat → Prop} (hW : WyW sh S w kd cut (wtb kd cut 32)) (hk : 0 ≤ kd ∧ kd ≤ 5) (hc : 1 ≤ cut ∧ cut ≤ 16) (ha : 0 ≤ a ∧ a ≤ 32) (hb : 0 ≤ b ∧ b ≤ 32) (hsm : sm = 0 ∨ sm = 1) (hq : Q (some (.int (iI (ctO kd cut a b sm)))) (hp g sh S) n) : GCall g mX8_countOf 3 0 0 [gr g w, .int (iI a), .int (iI b), .int (iI sm)] (hp g sh S) n Q := by
  have hW' := hW
  obtain ⟨h8, h8a, q2, e0, e1, eX⟩ := hW'
  have hmx : 0 ≤ mx2 a b ∧ mx2 a b ≤ 32 := by unfold mx2; split <;> omega
  obtain ⟨t1, t2, t4⟩ := wtb_ly hc hmx
  refine GCall.of (by decide) (Nat.le_of_ble_eq_true rfl) (ls := [(0, _), (1, _), (2, _), (3, _)]) rfl ?_
  by_cases c : a = 0 ∨ b = 0
  · have hq0 := hq
    unfold ctO at hq0
    rw [if_pos c] at hq0
    refine G_iload_n (pc := 0) dX8_countOf_0 rfl ?_
    refine G_if_eq (pc := 1) 8 dX8_countOf_1 rfl (by omega) (fun c1 => ?_) (fun c1 => ?_)
    · skip
      refine G_iconst (pc := 8) dX8_countOf_8 ?_
      refine G_iret (pc := 9) dX8_countOf_9 rfl (by decide) ?_
      exact hq0
    · skip
      refine G_iload_n (pc := 4) dX8_countOf_4 rfl ?_
      refine G_if_ne (pc := 5) 10 dX8_countOf_5 rfl (by omega) (fun c5 => ?_) (fun c5 => ?_)
      · skip
        exact absurd c (by omega)
      · skip
        refine G_iconst (pc := 8) dX8_countOf_8 ?_
        refine G_iret (pc := 9) dX8_countOf_9 rfl (by decide) ?_
        exact hq0
  · have hq1 := hq
    unfold ctO at hq1
    rw [if_neg c] at hq1
    have K10 : G g mX8_countOf 3 0 0 10 [(0, gr g w), (1, .int (iI a)), (2, .int (iI b)), (3, .int (iI sm))] [] (hp g sh S) n 0 0 Q := by
      by_cases k0 : kd = 0
      · rw [if_pos k0] at hq1
        refine S_aload_n (pc := 10) dX8_countOf_10 rfl ?_
        refine S_getI (pc := 11) dX8_countOf_11 fX8_15 (by assumption) rfl ?_
        rw [e0, k0]
        refine G_lsw (pc := 14) (off := 34) 48 dX8_countOf_14 (by decide) (by decide) (by decide) rfl ?_
        · skip
          skip
          refine G_iload_n (pc := 48) dX8_countOf_48 rfl ?_
          refine G_iload_n (pc := 49) dX8_countOf_49 rfl ?_
          refine G_imul (pc := 50) dX8_countOf_50 ?_
          refine G_iret (pc := 51) dX8_countOf_51 rfl (by decide) ?_
          exact hq1
      · rw [if_neg k0] at hq1
        by_cases k3 : kd = 3
        · rw [if_pos (Or.inl k3)] at hq1
          have e2 : (if kd = 5 ∧ sm = 1 then (2 : Int) else 3) = 3 := if_neg (by omega)
          rw [e2] at hq1
          refine S_aload_n (pc := 10) dX8_countOf_10 rfl ?_
          refine S_getI (pc := 11) dX8_countOf_11 fX8_15 (by assumption) rfl ?_
          rw [e0, k3]
          refine G_lsw (pc := 14) (off := 38) 52 dX8_countOf_14 (by decide) (by decide) (by decide) rfl ?_
          · skip
            skip
            refine G_iload_n (pc := 52) dX8_countOf_52 rfl ?_
            refine G_iload_n (pc := 53) dX8_countOf_53 rfl ?_
            refine G_iadd (pc := 54) dX8_countOf_54 ?_
            refine G_iconst (pc := 55) dX8_countOf_55 ?_
            refine G_isub (pc := 56) dX8_countOf_56 ?_
            refine G_iconst (pc := 57) dX8_countOf_57 ?_
            refine G_callS (pc := 58) (d2 := 1) (mc2 := 0) (ms2 := 0) (As := [_, _]) dX8_countOf_58 kX8_turned lkX8_35 rfl rfl (Nat.le_of_ble_eq_true rfl) ⟨by decide, by decide⟩ (by decide) ?_
            refine c_X8_turned (by omega) (Or.inr rfl) ?_
            show G _ _ _ _ _ _ _ _ _ _ _ _ _
            refine G_iret (pc := 61) dX8_countOf_61 rfl (by decide) ?_
            exact hq1
        · by_cases k5 : kd = 5
          · rw [if_pos (Or.inr k5)] at hq1
            refine S_aload_n (pc := 10) dX8_countOf_10 rfl ?_
            refine S_getI (pc := 11) dX8_countOf_11 fX8_15 (by assumption) rfl ?_
            rw [e0, k5]
            refine G_lsw (pc := 14) (off := 48) 62 dX8_countOf_14 (by decide) (by decide) (by decide) rfl ?_
            · skip
              skip
              refine G_iload_n (pc := 62) dX8_countOf_62 rfl ?_
              refine G_iload_n (pc := 63) dX8_countOf_63 rfl ?_
              refine G_iadd (pc := 64) dX8_countOf_64 ?_
              refine G_iconst (pc := 65) dX8_countOf_65 ?_
              refine G_isub (pc := 66) dX8_countOf_66 ?_
              refine G_iload_n (pc := 67) dX8_countOf_67 rfl ?_
              refine G_if_eq (pc := 68) 75 dX8_countOf_68 rfl (by omega) (fun c68 => ?_) (fun c68 => ?_)
              · skip
                refine G_iconst (pc := 75) dX8_countOf_75 ?_
                refine G_callS (pc := 76) (d2 := 1) (mc2 := 0) (ms2 := 0) (As := [_, _]) dX8_countOf_76 kX8_turned lkX8_35 rfl rfl (Nat.le_of_ble_eq_true rfl) ⟨by decide, by decide⟩ (by decide) ?_
                refine c_X8_turned (by omega) (by omega) ?_
                show G _ _ _ _ _ _ _ _ _ _ _ _ _
                refine G_iret (pc := 79) dX8_countOf_79 rfl (by decide) ?_
                first
                  | (rw [if_pos (show kd = 5 ∧ sm = 1 by omega)] at hq1; exact hq1)
                  | (rw [if_neg (show ¬ (kd = 5 ∧ sm = 1) by omega)] at hq1; exact hq1)
              · skip
                refine G_iconst (pc := 71) dX8_countOf_71 ?_
                refine G_goto (pc := 72) 76 dX8_countOf_72 rfl ?_
                refine G_callS (pc := 76) (d2 := 1) (mc2 := 0) (ms2 := 0) (As := [_, _]) dX8_countOf_76 kX8_turned lkX8_35 rfl rfl (Nat.le_of_ble_eq_true rfl) ⟨by decide, by decide⟩ (by decide) ?_
                refine c_X8_turned (by omega) (by omega) ?_
                show G _ _ _ _ _ _ _ _ _ _ _ _ _
                refine G_iret (pc := 79) dX8_countOf_79 rfl (by decide) ?_
                first
                  | (rw [if_pos (show kd = 5 ∧ sm = 1 by omega)] at hq1; exact hq1)
                  | (rw [if_neg (show ¬ (kd = 5 ∧ sm = 1) by omega)] at hq1; exact hq1)
          · rw [if_neg (by omega)] at hq1
            have hfin : Q (some (.int (iI (wtb kd cut 32 (mx2 a b))))) (hp g sh S) n := by
              by_cases k1 : kd = 1
              · rw [if_pos k1, k1] at hq1
                rw [k1, t1]; exact hq1
              · rw [if_neg k1] at hq1
                have : kd = 2 ∨ kd = 4 := by omega
                rcases this with e | e
                · rw [e] at hq1 ⊢
                  rw [t2]; exact hq1
                · rw [e] at hq1 ⊢
                  rw [t4]; exact hq1
            have emx : (if b ≤ a then a else b) = mx2 a b := by unfold mx2; split <;> split <;> omega
            refine S_aload_n (pc := 10) dX8_countOf_10 rfl ?_
            refine S_getI (pc := 11) dX8_countOf_11 fX8_15 (by assumption) rfl ?_
            rw [e0]
            refine G_lsw (pc := 14) (off := 66) 80 dX8_countOf_14 (by decide) (by omega) ((if_neg (fun z => k0 z.symm)).trans ((if_neg (fun z => k3 z.symm)).trans ((if_neg (fun z => k5 z.symm)).trans rfl))) rfl ?_
            · skip
              skip
              refine S_aload_n (pc := 80) dX8_countOf_80 rfl ?_
              refine G_iload_n (pc := 81) dX8_countOf_81 rfl ?_
              refine G_iload_n (pc := 82) dX8_countOf_82 rfl ?_
              refine G_callS (pc := 83) (d2 := 1) (mc2 := 0) (ms2 := 0) (As := [_, _]) dX8_countOf_83 kJ9_max_7cf53 lkX8_39 rfl rfl (Nat.le_of_ble_eq_true rfl) ⟨by decide, by decide⟩ (by decide) ?_
              refine c_J9_max (by omega) ?_
              rw [emx]
              show G _ _ _ _ _ _ _ _ _ _ _ _ _
              refine S_callV (pc := 86) (ci := 8) (d2 := 2) (mc2 := 0) (ms2 := 0) (As := [_]) dX8_countOf_86 kX8_countOfSize lkX8_44 (by assumption) rfl rfl rfl (Nat.le_of_ble_eq_true rfl) ⟨by decide, by decide⟩ (by decide) ?_
              refine c_X8_countOfSize hW hmx ?_
              show G _ _ _ _ _ _ _ _ _ _ _ _ _
              refine G_iret (pc := 89) dX8_countOf_89 rfl (by decide) ?_
              exact hfin
    refine G_iload_n (pc := 0) dX8_countOf_0 rfl ?_
    refine G_if_eq (pc := 1) 8 dX8_countOf_1 rfl (by omega) (fun c1 => ?_) (fun c1 => ?_)
    · skip
      refine G_iconst (pc := 8) dX8_countOf_8 ?_
      refine G_iret (pc := 9) dX8_countOf_9 rfl (by decide) ?_
      exact absurd (by omega) c
    · skip
      refine G_iload_n (pc := 4) dX8_countOf_4 rfl ?_
      refine G_if_ne (pc := 5) 10 dX8_countOf_5 rfl (by omega) (fun c5 => ?_) (fun c5 => ?_)
      · skip
        exact K10
      · skip
        refine G_iconst (pc := 8) dX8_countOf_8 ?_
        refine G_iret (pc := 9) dX8_countOf_9 rfl (by decide) ?_
        exact absurd (by omega) c
