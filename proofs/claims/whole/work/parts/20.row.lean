/-! Row -/
/-- a Row of room N at a, its numbers at a + 1 -/
def IsRow (sh : SH) (S : SS) (a N : Nat) : Prop := sh a = some (.inl 4) ∧ sh (a + 1) = some (.inr (1, N)) ∧ S.2.2 a 0 = some (a + 1)
set_option maxRecDepth 100000 in
set_option maxHeartbeats 4000000 in
theorem c_X4_length {g : GC} {sh : SH} {S : SS} {n a N : Nat} {Q : Option Value → GA → Nat → Prop} (hr : IsRow sh S a N) (hq : Q (some (.int (iI (S.1 a 1)))) (hp g sh S) n) : GCall g mX4_length 1 0 0 [gr g a] (hp g sh S) n Q := by
  obtain ⟨h1, h2, h3⟩ := hr
  refine GCall.of (by decide) (Nat.le_of_ble_eq_true rfl) (ls := [(0, _)]) rfl ?_
  refine G_aload_n dX4_length_0 rfl ?_
  refine S_getI dX4_length_1 fX4_19 (by assumption) rfl ?_
  refine G_iret dX4_length_4 rfl (by decide) ?_
  exact hq
set_option maxRecDepth 100000 in
set_option maxHeartbeats 4000000 in
theorem c_X4_get {g : GC} {sh : SH} {S : SS} {n a N : Nat} {i : Int} {Q : Option Value → GA → Nat → Prop} (hr : IsRow sh S a N) (hN : (N : Int) ≤ 1000) (hi : -2147483648 ≤ i ∧ i ≤ 2147483647) (hq : Q (some (.int (iI (if 0 ≤ i ∧ i < N then S.2.1 (a + 1) i else 0)))) (hp g sh S) n) : GCall g mX4_get 1 0 0 [gr g a, .int (iI i)] (hp g sh S) n Q := by
  obtain ⟨h1, h2, h3⟩ := hr
  refine GCall.of (by decide) (Nat.le_of_ble_eq_true rfl) (ls := [(0, _), (1, _)]) rfl ?_
  refine G_iload_n dX4_get_0 rfl ?_
  refine G_if_lt 22 dX4_get_1 rfl (by omega) (fun c1 => ?_) (fun c1 => ?_)
  · skip
    refine G_iconst dX4_get_22 ?_
    refine G_iret dX4_get_23 rfl (by decide) ?_
    first | exact Q_i (by rw [if_pos (by omega)]) hq | exact Q_i (by rw [if_neg (by omega)]) hq
  · skip
    refine G_iload_n dX4_get_4 rfl ?_
    refine G_aload_n dX4_get_5 rfl ?_
    refine S_getR dX4_get_6 fX4_13 (by assumption) rfl (by assumption) ?_
    refine S_alen dX4_get_9 (Or.inl (by assumption)) ?_
    refine G_icmp_ge 22 dX4_get_10 rfl (by omega) (fun c10 => ?_) (fun c10 => ?_)
    · skip
      refine G_iconst dX4_get_22 ?_
      refine G_iret dX4_get_23 rfl (by decide) ?_
      first | exact Q_i (by rw [if_pos (by omega)]) hq | exact Q_i (by rw [if_neg (by omega)]) hq
    · skip
      refine G_aload_n dX4_get_13 rfl ?_
      refine S_getR dX4_get_14 fX4_13 (by assumption) rfl (by assumption) ?_
      refine G_iload_n dX4_get_17 rfl ?_
      refine S_iald dX4_get_18 (by assumption) (by omega) ?_
      refine G_goto 23 dX4_get_19 rfl ?_
      refine G_iret dX4_get_23 rfl (by decide) ?_
      first | exact Q_i (by rw [if_pos (by omega)]) hq | exact Q_i (by rw [if_neg (by omega)]) hq
