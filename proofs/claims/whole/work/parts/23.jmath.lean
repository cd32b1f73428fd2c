/-! Math.max, min, floorMod -/
set_option maxRecDepth 100000 in
set_option maxHeartbeats 4000000 in
theorem c_J9_max {g : GC} {h : GA} {n : Nat} {a b : Int} {Q : Option Value → GA → Nat → Prop} (hr : -2147483648 ≤ a ∧ a ≤ 2147483647 ∧ -2147483648 ≤ b ∧ b ≤ 2147483647) (hq : Q (some (.int (iI (if b ≤ a then a else b)))) h n) : GCall g mJ9_max_7cf53 1 0 0 [.int (iI a), .int (iI b)] h n Q := by
  refine GCall_ofF (by decide +kernel) (Nat.le_of_ble_eq_true rfl) (ls := [(0, _), (1, _)]) rfl ?_
  refine G_iload_n (pc := 0) dJ9_max_7cf53_0 rfl ?_
  refine G_iload_n (pc := 1) dJ9_max_7cf53_1 rfl ?_
  refine G_icmp_lt (pc := 2) 9 dJ9_max_7cf53_2 rfl (by omega) (fun c2 => ?_) (fun c2 => ?_)
  · skip
    refine G_iload_n (pc := 9) dJ9_max_7cf53_9 rfl ?_
    refine G_iret (pc := 10) dJ9_max_7cf53_10 rfl (by decide) ?_
    first | exact Q_i (by rw [if_pos (by omega)]) hq | exact Q_i (by rw [if_neg (by omega)]) hq
  · skip
    refine G_iload_n (pc := 5) dJ9_max_7cf53_5 rfl ?_
    refine G_goto (pc := 6) 10 dJ9_max_7cf53_6 rfl ?_
    refine G_iret (pc := 10) dJ9_max_7cf53_10 rfl (by decide) ?_
    first | exact Q_i (by rw [if_pos (by omega)]) hq | exact Q_i (by rw [if_neg (by omega)]) hq
set_option maxRecDepth 100000 in
set_option maxHeartbeats 4000000 in
theorem c_J9_min {g : GC} {h : GA} {n : Nat} {a b : Int} {Q : Option Value → GA → Nat → Prop} (hr : -2147483648 ≤ a ∧ a ≤ 2147483647 ∧ -2147483648 ≤ b ∧ b ≤ 2147483647) (hq : Q (some (.int (iI (if a ≤ b then a else b)))) h n) : GCall g mJ9_min_7cf53 1 0 0 [.int (iI a), .int (iI b)] h n Q := by
  refine GCall_ofF (by decide +kernel) (Nat.le_of_ble_eq_true rfl) (ls := [(0, _), (1, _)]) rfl ?_
  refine G_iload_n (pc := 0) dJ9_min_7cf53_0 rfl ?_
  refine G_iload_n (pc := 1) dJ9_min_7cf53_1 rfl ?_
  refine G_icmp_gt (pc := 2) 9 dJ9_min_7cf53_2 rfl (by omega) (fun c2 => ?_) (fun c2 => ?_)
  · skip
    refine G_iload_n (pc := 9) dJ9_min_7cf53_9 rfl ?_
    refine G_iret (pc := 10) dJ9_min_7cf53_10 rfl (by decide) ?_
    first | exact Q_i (by rw [if_pos (by omega)]) hq | exact Q_i (by rw [if_neg (by omega)]) hq
  · skip
    refine G_iload_n (pc := 5) dJ9_min_7cf53_5 rfl ?_
    refine G_goto (pc := 6) 10 dJ9_min_7cf53_6 rfl ?_
    refine G_iret (pc := 10) dJ9_min_7cf53_10 rfl (by decide) ?_
    first | exact Q_i (by rw [if_pos (by omega)]) hq | exact Q_i (by rw [if_neg (by omega)]) hq
