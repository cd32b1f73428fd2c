/-! the Model: root -/
/-- how many of the first t numbers are roots -/
def rct (p : Int) (xs : Int → Int) : Nat → Int
  | 0 => 0
  | t + 1 => rct p xs t + (if ev xs (t : Int) 80 % p = 0 then 1 else 0)
theorem rct_bd {p : Int} {xs : Int → Int} : ∀ t : Nat, 0 ≤ rct p xs t ∧ rct p xs t ≤ t
  | 0 => ⟨Int.le_refl _, Int.le_refl _⟩
  | t + 1 => by
    have := rct_bd (p := p) (xs := xs) t
    unfold rct
    by_cases h : ev xs (t : Int) 80 % p = 0
    · rw [if_pos h]; omega
    · rw [if_neg h]; omega
theorem rct_y {p : Int} {xs : Int → Int} {t : Nat} (h : ev xs (t : Int) 80 % p = 0) : rct p xs (t + 1) = rct p xs t + 1 := by
  unfold rct; rw [if_pos h]; cases t <;> rfl
theorem rct_n {p : Int} {xs : Int → Int} {t : Nat} (h : ¬ ev xs (t : Int) 80 % p = 0) : rct p xs (t + 1) = rct p xs t := by
  show rct p xs t + _ = _
  rw [if_neg h, Int.add_zero]
set_option maxRecDepth 100000 in
set_option maxHeartbeats 4000000 in
theorem l_X10_root {g : GC} {p a i : Int} {sh : SH} {S : SS} {n : Nat} {Q : Option Value → GA → Nat → Prop} (hW : MdW p sh S) (ha : 0 ≤ a ∧ a < 8) (hi : -1 ≤ i ∧ i ≤ 2147483647)
    (hy : ∀ x : Nat, x < p → ev (mg S a) x 80 % p = 0 → rct p (mg S a) x = i → Q (some (.int (iI x))) (hp g sh S) n) (hm : i = -1 → Q (some (.int (iI (rct p (mg S a) p.toNat)))) (hp g sh S) n) (hn : 0 ≤ i → rct p (mg S a) p.toNat ≤ i → Q (some (.int (iI (-1)))) (hp g sh S) n) :
    ∀ (k t : Nat), t + k = p → (0 ≤ i → rct p (mg S a) t ≤ i) → G g mX10_root 3 0 0 33 [(4, .int (iI t)), (3, .int (iI (rct p (mg S a) t))), (0, gr g 96), (1, .int (iI a)), (2, .int (iI i))] [] (hp g sh S) n 0 0 Q := by
  intro k
  have hW' := hW
  obtain ⟨hP, h96, hp1, p2, h97, hred⟩ := hW'
  have hpb := hP.bd
  induction k with
  | zero =>
    intro t ht hle
    have hb := rct_bd (p := p) (xs := mg S a) t
    have et : t = p.toNat := by omega
    by_cases hi0 : 0 ≤ i
    · skip
      refine G_iload (pc := 33) dX10_root_33 rfl ?_
      refine S_aload_n (pc := 35) dX10_root_35 rfl ?_
      refine S_getI (pc := 36) dX10_root_36 fX10_64 (by assumption) rfl ?_
      rw [hp1]
      refine G_icmp_ge_t (pc := 39) 72 dX10_root_39 rfl (by omega) (by omega) ?_
      refine G_iload_n (pc := 72) dX10_root_72 rfl ?_
      refine G_if_ge_t (pc := 73) 80 dX10_root_73 rfl (by omega) (by omega) ?_
      refine G_iconst (pc := 80) dX10_root_80 ?_
      refine G_iret (pc := 81) dX10_root_81 rfl (by decide) ?_
      exact hn hi0 (by rw [← et]; exact hle hi0)
    · skip
      refine G_iload (pc := 33) dX10_root_33 rfl ?_
      refine S_aload_n (pc := 35) dX10_root_35 rfl ?_
      refine S_getI (pc := 36) dX10_root_36 fX10_64 (by assumption) rfl ?_
      rw [hp1]
      refine G_icmp_ge_t (pc := 39) 72 dX10_root_39 rfl (by omega) (by omega) ?_
      refine G_iload_n (pc := 72) dX10_root_72 rfl ?_
      refine G_if_ge_f (pc := 73) 80 dX10_root_73 rfl (by omega) (by omega) ?_
      refine G_iload_n (pc := 76) dX10_root_76 rfl ?_
      refine G_goto (pc := 77) 81 dX10_root_77 rfl ?_
      refine G_iret (pc := 81) dX10_root_81 rfl (by decide) ?_
      rw [et]
      exact hm (by omega)
  | succ k ih =>
    intro t ht hle
    have hb := rct_bd (p := p) (xs := mg S a) t
    have hv := em_bd (z := ev (mg S a) (t : Int) 80) (p := p) (by omega)
    by_cases hz : ev (mg S a) (t : Int) 80 % p = 0
    · by_cases he : rct p (mg S a) t = i
      · skip
        refine G_iload (pc := 33) dX10_root_33 rfl ?_
        refine S_aload_n (pc := 35) dX10_root_35 rfl ?_
        refine S_getI (pc := 36) dX10_root_36 fX10_64 (by assumption) rfl ?_
        rw [hp1]
        refine G_icmp_ge_f (pc := 39) 72 dX10_root_39 rfl (by omega) (by omega) ?_
        refine S_aload_n (pc := 42) dX10_root_42 rfl ?_
        refine G_iload_n (pc := 43) dX10_root_43 rfl ?_
        refine G_iload (pc := 44) dX10_root_44 rfl ?_
        refine S_callV (pc := 46) (ci := 10) (d2 := 2) (mc2 := 0) (ms2 := 0) (As := [_, _]) dX10_root_46 kX10_worth lkX10_281 (by assumption) rfl rfl rfl (Nat.le_of_ble_eq_true rfl) ⟨by decide, by decide⟩ (by decide) ?_
        refine c_X10_worth hW (by omega) (by omega) ?_
        show G _ _ _ _ _ _ _ _ _ _ _ _ _
        refine G_if_eq_t (pc := 49) 55 dX10_root_49 rfl (by omega) (by omega) ?_
        refine G_iload_n (pc := 55) dX10_root_55 rfl ?_
        refine G_iload_n (pc := 56) dX10_root_56 rfl ?_
        refine G_icmp_ne_f (pc := 57) 63 dX10_root_57 rfl (by omega) (by omega) ?_
        refine G_iload (pc := 60) dX10_root_60 rfl ?_
        refine G_iret (pc := 62) dX10_root_62 rfl (by decide) ?_
        exact hy t (by omega) hz he
      · have hh := ih (t + 1) (by omega) (fun h => by rw [rct_y hz]; have := hle h; omega)
        rw [rct_y hz, show ((t + 1 : Nat) : Int) = t + 1 by omega] at hh
        refine G_iload (pc := 33) dX10_root_33 rfl ?_
        refine S_aload_n (pc := 35) dX10_root_35 rfl ?_
        refine S_getI (pc := 36) dX10_root_36 fX10_64 (by assumption) rfl ?_
        rw [hp1]
        refine G_icmp_ge_f (pc := 39) 72 dX10_root_39 rfl (by omega) (by omega) ?_
        refine S_aload_n (pc := 42) dX10_root_42 rfl ?_
        refine G_iload_n (pc := 43) dX10_root_43 rfl ?_
        refine G_iload (pc := 44) dX10_root_44 rfl ?_
        refine S_callV (pc := 46) (ci := 10) (d2 := 2) (mc2 := 0) (ms2 := 0) (As := [_, _]) dX10_root_46 kX10_worth lkX10_281 (by assumption) rfl rfl rfl (Nat.le_of_ble_eq_true rfl) ⟨by decide, by decide⟩ (by decide) ?_
        refine c_X10_worth hW (by omega) (by omega) ?_
        show G _ _ _ _ _ _ _ _ _ _ _ _ _
        refine G_if_eq_t (pc := 49) 55 dX10_root_49 rfl (by omega) (by omega) ?_
        refine G_iload_n (pc := 55) dX10_root_55 rfl ?_
        refine G_iload_n (pc := 56) dX10_root_56 rfl ?_
        refine G_icmp_ne_t (pc := 57) 63 dX10_root_57 rfl (by omega) (by omega) ?_
        refine G_iinc (pc := 63) (ls' := [(3, _), (4, _), (0, _), (1, _), (2, _)]) dX10_root_63 rfl (by decide) rfl ?_
        refine G_iinc (pc := 66) (ls' := [(4, _), (3, _), (0, _), (1, _), (2, _)]) dX10_root_66 rfl (by decide) rfl ?_
        refine G_goto (pc := 69) 33 dX10_root_69 rfl ?_
        exact hh
    · have hh := ih (t + 1) (by omega) (fun h => by rw [rct_n hz]; exact hle h)
      rw [rct_n hz, show ((t + 1 : Nat) : Int) = t + 1 by omega] at hh
      refine G_iload (pc := 33) dX10_root_33 rfl ?_
      refine S_aload_n (pc := 35) dX10_root_35 rfl ?_
      refine S_getI (pc := 36) dX10_root_36 fX10_64 (by assumption) rfl ?_
      rw [hp1]
      refine G_icmp_ge_f (pc := 39) 72 dX10_root_39 rfl (by omega) (by omega) ?_
      refine S_aload_n (pc := 42) dX10_root_42 rfl ?_
      refine G_iload_n (pc := 43) dX10_root_43 rfl ?_
      refine G_iload (pc := 44) dX10_root_44 rfl ?_
      refine S_callV (pc := 46) (ci := 10) (d2 := 2) (mc2 := 0) (ms2 := 0) (As := [_, _]) dX10_root_46 kX10_worth lkX10_281 (by assumption) rfl rfl rfl (Nat.le_of_ble_eq_true rfl) ⟨by decide, by decide⟩ (by decide) ?_
      refine c_X10_worth hW (by omega) (by omega) ?_
      show G _ _ _ _ _ _ _ _ _ _ _ _ _
      refine G_if_eq_f (pc := 49) 55 dX10_root_49 rfl (by omega) (by omega) ?_
      refine G_goto (pc := 52) 66 dX10_root_52 rfl ?_
      refine G_iinc (pc := 66) (ls' := [(4, _), (3, _), (0, _), (1, _), (2, _)]) dX10_root_66 rfl (by decide) rfl ?_
      refine G_goto (pc := 69) 33 dX10_root_69 rfl ?_
      exact hh
set_option maxRecDepth 100000 in
set_option maxHeartbeats 4000000 in
theorem c_X10_root {g : GC} {p a i : Int} {sh : SH} {S : SS} {n : Nat} {Q : Option Value → GA → Nat → Prop} (hW : MdW p sh S) (hr : (-2147483648 ≤ a ∧ a ≤ 2147483647) ∧ (-2147483648 ≤ i ∧ i ≤ 2147483647)) (h0 : ¬ (0 ≤ a ∧ a < 8) → Q (some (.int (iI (-2)))) (hp g sh S) n) (hz : (0 ≤ a ∧ a < 8) → plen (mg S a) 80 = 0 → Q (some (.int (iI (-3)))) (hp g sh S) n) (hu : (0 ≤ a ∧ a < 8) → plen (mg S a) 80 ≠ 0 → i < -1 → Q (some (.int (iI (-1)))) (hp g sh S) n)
    (hy : (0 ≤ a ∧ a < 8) → plen (mg S a) 80 ≠ 0 → ∀ x : Nat, x < p → ev (mg S a) x 80 % p = 0 → rct p (mg S a) x = i → Q (some (.int (iI x))) (hp g sh S) n) (hm : (0 ≤ a ∧ a < 8) → plen (mg S a) 80 ≠ 0 → i = -1 → Q (some (.int (iI (rct p (mg S a) p.toNat)))) (hp g sh S) n) (hn : (0 ≤ a ∧ a < 8) → plen (mg S a) 80 ≠ 0 → 0 ≤ i → rct p (mg S a) p.toNat ≤ i → Q (some (.int (iI (-1)))) (hp g sh S) n) :
    GCall g mX10_root 3 0 0 [gr g 96, .int (iI a), .int (iI i)] (hp g sh S) n Q := by
  have h96 := hW.2.1
  have hpb := hW.1.bd
  obtain ⟨hr1, hr2⟩ := hr
  have hab := plen_bd (mg S a) 80
  refine GCall.of (by decide) (Nat.le_of_ble_eq_true rfl) (ls := [(0, _), (1, _), (2, _)]) rfl ?_
  refine G_iload_n (pc := 0) dX10_root_0 rfl ?_
  refine G_callS (pc := 1) (d2 := 2) (mc2 := 0) (ms2 := 0) (As := [_]) dX10_root_1 kX10_isPoly lkX10_98 rfl rfl (Nat.le_of_ble_eq_true rfl) ⟨by decide, by decide⟩ (by decide) ?_
  refine c_X10_isPoly (by omega) (fun w1 => ?_) (fun w1 => ?_)
  · show G _ _ _ _ _ _ _ _ _ _ _ _ _
    refine G_if_ne_t (pc := 4) 10 dX10_root_4 rfl (by decide) (by decide) ?_
    refine S_aload_n (pc := 10) dX10_root_10 rfl ?_
    refine G_iload_n (pc := 11) dX10_root_11 rfl ?_
    refine S_callV (pc := 12) (ci := 10) (d2 := 1) (mc2 := 0) (ms2 := 0) (As := [_]) dX10_root_12 kX10_length lkX10_94 (by assumption) rfl rfl rfl (Nat.le_of_ble_eq_true rfl) ⟨by decide, by decide⟩ (by decide) ?_
    refine c_X10_length hW (by omega) ?_
    show G _ _ _ _ _ _ _ _ _ _ _ _ _
    refine G_if_ne (pc := 15) 21 dX10_root_15 rfl (by omega) (fun c15 => ?_) (fun c15 => ?_)
    · skip
      refine G_iload_n (pc := 21) dX10_root_21 rfl ?_
      refine G_iconst (pc := 22) dX10_root_22 ?_
      refine G_icmp_ge (pc := 23) 28 dX10_root_23 rfl (by omega) (fun c23 => ?_) (fun c23 => ?_)
      · skip
        refine G_iconst (pc := 28) dX10_root_28 ?_
        refine G_istore_n (pc := 29) (ls' := [(3, _), (0, _), (1, _), (2, _)]) dX10_root_29 (by decide) rfl ?_
        refine G_iconst (pc := 30) dX10_root_30 ?_
        refine G_istore (pc := 31) (ls' := [(4, _), (3, _), (0, _), (1, _), (2, _)]) dX10_root_31 (by decide) rfl ?_
        exact l_X10_root hW (by omega) (by omega) (hy (by omega) (by omega)) (hm (by omega) (by omega)) (hn (by omega) (by omega)) p.toNat 0 (by omega) (fun h => h)
      · skip
        refine G_iconst (pc := 26) dX10_root_26 ?_
        refine G_iret (pc := 27) dX10_root_27 rfl (by decide) ?_
        exact hu (by omega) (by omega) (by omega)
    · skip
      refine G_bipush (pc := 18) dX10_root_18 rfl ?_
      refine G_iret (pc := 20) dX10_root_20 rfl (by decide) ?_
      exact hz (by omega) (by omega)
  · show G _ _ _ _ _ _ _ _ _ _ _ _ _
    refine G_if_ne_f (pc := 4) 10 dX10_root_4 rfl (by decide) (by decide) ?_
    refine G_bipush (pc := 7) dX10_root_7 rfl ?_
    refine G_iret (pc := 9) dX10_root_9 rfl (by decide) ?_
    exact h0 (by omega)
